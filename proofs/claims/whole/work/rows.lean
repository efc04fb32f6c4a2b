section
-- ===== PART A: goes FIRST, ahead of the names: the tables' words, and 'selects' of the private methods out of them =====
/-- a private method of a class that the tables say can be made, by its rows of tables_1 -/
def lw_okq (q : MethodName × Nat) : Prop := (q.1.cls ≠ "java/lang/invoke/MethodHandle" ∧ q.1.cls ≠ "java/lang/invoke/VarHandle") ∧ Cond.instantiable q.1.cls q.2 ∈ tables_1 ∧ Cond.privateMethod q.1 ∈ tables_1 ∧ Cond.instanceMethod q.1 ∈ tables_1
theorem lw_p0 : lw_okq (⟨"TrainDesk", "isCutAtHand", "()Z"⟩, 11) := ⟨⟨by decide +kernel, by decide +kernel⟩, List.mem_of_getElem? (i := 25) (by decide +kernel), List.mem_of_getElem? (i := 205) (by decide +kernel), List.mem_of_getElem? (i := 206) (by decide +kernel)⟩
theorem lw_p1 : lw_okq (⟨"TrainDesk", "isPart", "(I)Z"⟩, 11) := ⟨⟨by decide +kernel, by decide +kernel⟩, List.mem_of_getElem? (i := 25) (by decide +kernel), List.mem_of_getElem? (i := 216) (by decide +kernel), List.mem_of_getElem? (i := 217) (by decide +kernel)⟩
theorem lw_p2 : lw_okq (⟨"TrainDesk", "homeToCome", "(I)I"⟩, 11) := ⟨⟨by decide +kernel, by decide +kernel⟩, List.mem_of_getElem? (i := 25) (by decide +kernel), List.mem_of_getElem? (i := 223) (by decide +kernel), List.mem_of_getElem? (i := 224) (by decide +kernel)⟩
theorem lw_p3 : lw_okq (⟨"TrainDesk", "isChosen", "(I)Z"⟩, 11) := ⟨⟨by decide +kernel, by decide +kernel⟩, List.mem_of_getElem? (i := 25) (by decide +kernel), List.mem_of_getElem? (i := 227) (by decide +kernel), List.mem_of_getElem? (i := 228) (by decide +kernel)⟩
theorem lw_p4 : lw_okq (⟨"TrainDesk", "openOffers", "()LTrainDesk$Offers;"⟩, 11) := ⟨⟨by decide +kernel, by decide +kernel⟩, List.mem_of_getElem? (i := 25) (by decide +kernel), List.mem_of_getElem? (i := 235) (by decide +kernel), List.mem_of_getElem? (i := 236) (by decide +kernel)⟩
theorem lw_p5 : lw_okq (⟨"TrainDesk", "areParts", "(I)Z"⟩, 11) := ⟨⟨by decide +kernel, by decide +kernel⟩, List.mem_of_getElem? (i := 25) (by decide +kernel), List.mem_of_getElem? (i := 269) (by decide +kernel), List.mem_of_getElem? (i := 270) (by decide +kernel)⟩
theorem lw_p6 : lw_okq (⟨"TrainDesk", "firstBroken", "(I)I"⟩, 11) := ⟨⟨by decide +kernel, by decide +kernel⟩, List.mem_of_getElem? (i := 25) (by decide +kernel), List.mem_of_getElem? (i := 285) (by decide +kernel), List.mem_of_getElem? (i := 286) (by decide +kernel)⟩
theorem lw_p7 : lw_okq (⟨"TrainDesk$Needs", "weighOne", "(I[ILTrainDesk$Offers;)V"⟩, 8) := ⟨⟨by decide +kernel, by decide +kernel⟩, List.mem_of_getElem? (i := 50) (by decide +kernel), List.mem_of_getElem? (i := 293) (by decide +kernel), List.mem_of_getElem? (i := 294) (by decide +kernel)⟩
theorem lw_p8 : lw_okq (⟨"TrainDesk$Needs", "holds", "(II)Z"⟩, 8) := ⟨⟨by decide +kernel, by decide +kernel⟩, List.mem_of_getElem? (i := 50) (by decide +kernel), List.mem_of_getElem? (i := 299) (by decide +kernel), List.mem_of_getElem? (i := 300) (by decide +kernel)⟩
theorem lw_p9 : lw_okq (⟨"TrainDesk$Needs", "neverBreaks", "(I)V"⟩, 8) := ⟨⟨by decide +kernel, by decide +kernel⟩, List.mem_of_getElem? (i := 50) (by decide +kernel), List.mem_of_getElem? (i := 303) (by decide +kernel), List.mem_of_getElem? (i := 304) (by decide +kernel)⟩
theorem lw_p10 : lw_okq (⟨"TrainDesk", "greatest", "(II)I"⟩, 11) := ⟨⟨by decide +kernel, by decide +kernel⟩, List.mem_of_getElem? (i := 25) (by decide +kernel), List.mem_of_getElem? (i := 323) (by decide +kernel), List.mem_of_getElem? (i := 324) (by decide +kernel)⟩
theorem lw_p11 : lw_okq (⟨"TrainDesk", "goes", "(I)Z"⟩, 11) := ⟨⟨by decide +kernel, by decide +kernel⟩, List.mem_of_getElem? (i := 25) (by decide +kernel), List.mem_of_getElem? (i := 337) (by decide +kernel), List.mem_of_getElem? (i := 338) (by decide +kernel)⟩
theorem lw_p12 : lw_okq (⟨"TrainDesk", "choose", "(I)V"⟩, 11) := ⟨⟨by decide +kernel, by decide +kernel⟩, List.mem_of_getElem? (i := 25) (by decide +kernel), List.mem_of_getElem? (i := 341) (by decide +kernel), List.mem_of_getElem? (i := 342) (by decide +kernel)⟩
theorem lw_p13 : lw_okq (⟨"TrainDesk", "mayFix", "(III)Z"⟩, 11) := ⟨⟨by decide +kernel, by decide +kernel⟩, List.mem_of_getElem? (i := 25) (by decide +kernel), List.mem_of_getElem? (i := 375) (by decide +kernel), List.mem_of_getElem? (i := 376) (by decide +kernel)⟩
theorem lw_p14 : lw_okq (⟨"java/util/ArrayList", "add", "(Ljava/lang/Object;[Ljava/lang/Object;I)V"⟩, 3) := ⟨⟨by decide +kernel, by decide +kernel⟩, List.mem_of_getElem? (i := 141) (by decide +kernel), List.mem_of_getElem? (i := 450) (by decide +kernel), List.mem_of_getElem? (i := 451) (by decide +kernel)⟩
theorem lw_p15 : lw_okq (⟨"java/util/ArrayList", "grow", "()[Ljava/lang/Object;"⟩, 3) := ⟨⟨by decide +kernel, by decide +kernel⟩, List.mem_of_getElem? (i := 141) (by decide +kernel), List.mem_of_getElem? (i := 454) (by decide +kernel), List.mem_of_getElem? (i := 455) (by decide +kernel)⟩
def lw_privs_1 : List (MethodName × Nat) := [(⟨"TrainDesk", "isCutAtHand", "()Z"⟩, 11), (⟨"TrainDesk", "isPart", "(I)Z"⟩, 11), (⟨"TrainDesk", "homeToCome", "(I)I"⟩, 11), (⟨"TrainDesk", "isChosen", "(I)Z"⟩, 11), (⟨"TrainDesk", "openOffers", "()LTrainDesk$Offers;"⟩, 11), (⟨"TrainDesk", "areParts", "(I)Z"⟩, 11), (⟨"TrainDesk", "firstBroken", "(I)I"⟩, 11), (⟨"TrainDesk$Needs", "weighOne", "(I[ILTrainDesk$Offers;)V"⟩, 8), (⟨"TrainDesk$Needs", "holds", "(II)Z"⟩, 8), (⟨"TrainDesk$Needs", "neverBreaks", "(I)V"⟩, 8), (⟨"TrainDesk", "greatest", "(II)I"⟩, 11), (⟨"TrainDesk", "goes", "(I)Z"⟩, 11), (⟨"TrainDesk", "choose", "(I)V"⟩, 11), (⟨"TrainDesk", "mayFix", "(III)Z"⟩, 11), (⟨"java/util/ArrayList", "add", "(Ljava/lang/Object;[Ljava/lang/Object;I)V"⟩, 3), (⟨"java/util/ArrayList", "grow", "()[Ljava/lang/Object;"⟩, 3)]
theorem lw_r1 : ∀ q ∈ lw_privs_1, lw_okq q := List.forall_mem_cons.mpr ⟨lw_p0, List.forall_mem_cons.mpr ⟨lw_p1, List.forall_mem_cons.mpr ⟨lw_p2, List.forall_mem_cons.mpr ⟨lw_p3, List.forall_mem_cons.mpr ⟨lw_p4, List.forall_mem_cons.mpr ⟨lw_p5, List.forall_mem_cons.mpr ⟨lw_p6, List.forall_mem_cons.mpr ⟨lw_p7, List.forall_mem_cons.mpr ⟨lw_p8, List.forall_mem_cons.mpr ⟨lw_p9, List.forall_mem_cons.mpr ⟨lw_p10, List.forall_mem_cons.mpr ⟨lw_p11, List.forall_mem_cons.mpr ⟨lw_p12, List.forall_mem_cons.mpr ⟨lw_p13, List.forall_mem_cons.mpr ⟨lw_p14, List.forall_mem_cons.mpr ⟨lw_p15, fun _ h => absurd h List.not_mem_nil⟩⟩⟩⟩⟩⟩⟩⟩⟩⟩⟩⟩⟩⟩⟩⟩
theorem lw_p16 : lw_okq (⟨"java/util/ArrayList", "grow", "(I)[Ljava/lang/Object;"⟩, 3) := ⟨⟨by decide +kernel, by decide +kernel⟩, List.mem_of_getElem? (i := 141) (by decide +kernel), List.mem_of_getElem? (i := 458) (by decide +kernel), List.mem_of_getElem? (i := 459) (by decide +kernel)⟩
theorem lw_p17 : lw_okq (⟨"TrainDesk", "endCut", "()V"⟩, 11) := ⟨⟨by decide +kernel, by decide +kernel⟩, List.mem_of_getElem? (i := 25) (by decide +kernel), List.mem_of_getElem? (i := 498) (by decide +kernel), List.mem_of_getElem? (i := 499) (by decide +kernel)⟩
theorem lw_p18 : lw_okq (⟨"TrainDesk", "latestOut", "()I"⟩, 11) := ⟨⟨by decide +kernel, by decide +kernel⟩, List.mem_of_getElem? (i := 25) (by decide +kernel), List.mem_of_getElem? (i := 526) (by decide +kernel), List.mem_of_getElem? (i := 527) (by decide +kernel)⟩
theorem lw_p19 : lw_okq (⟨"TrainDesk", "isStuck", "(I)Z"⟩, 11) := ⟨⟨by decide +kernel, by decide +kernel⟩, List.mem_of_getElem? (i := 25) (by decide +kernel), List.mem_of_getElem? (i := 544) (by decide +kernel), List.mem_of_getElem? (i := 545) (by decide +kernel)⟩
theorem lw_p20 : lw_okq (⟨"TrainDesk", "bringHome", "([II)V"⟩, 11) := ⟨⟨by decide +kernel, by decide +kernel⟩, List.mem_of_getElem? (i := 25) (by decide +kernel), List.mem_of_getElem? (i := 549) (by decide +kernel), List.mem_of_getElem? (i := 550) (by decide +kernel)⟩
theorem lw_p21 : lw_okq (⟨"TrainDesk", "dropOffersAtHome", "()V"⟩, 11) := ⟨⟨by decide +kernel, by decide +kernel⟩, List.mem_of_getElem? (i := 25) (by decide +kernel), List.mem_of_getElem? (i := 553) (by decide +kernel), List.mem_of_getElem? (i := 554) (by decide +kernel)⟩
theorem lw_p22 : lw_okq (⟨"TrainDesk$Hunt", "isRed", "(LTrainDesk$Tests;I)Z"⟩, 2) := ⟨⟨by decide +kernel, by decide +kernel⟩, List.mem_of_getElem? (i := 109) (by decide +kernel), List.mem_of_getElem? (i := 565) (by decide +kernel), List.mem_of_getElem? (i := 566) (by decide +kernel)⟩
theorem lw_p23 : lw_okq (⟨"TrainDesk$Hunt", "withoutPiece", "(LTrainDesk$Tests;I)I"⟩, 2) := ⟨⟨by decide +kernel, by decide +kernel⟩, List.mem_of_getElem? (i := 109) (by decide +kernel), List.mem_of_getElem? (i := 571) (by decide +kernel), List.mem_of_getElem? (i := 572) (by decide +kernel)⟩
theorem lw_p24 : lw_okq (⟨"TrainDesk", "isTrain", "(I)Z"⟩, 11) := ⟨⟨by decide +kernel, by decide +kernel⟩, List.mem_of_getElem? (i := 25) (by decide +kernel), List.mem_of_getElem? (i := 593) (by decide +kernel), List.mem_of_getElem? (i := 594) (by decide +kernel)⟩
theorem lw_p25 : lw_okq (⟨"TrainDesk", "trainsOut", "()I"⟩, 11) := ⟨⟨by decide +kernel, by decide +kernel⟩, List.mem_of_getElem? (i := 25) (by decide +kernel), List.mem_of_getElem? (i := 601) (by decide +kernel), List.mem_of_getElem? (i := 602) (by decide +kernel)⟩
theorem lw_p26 : lw_okq (⟨"java/lang/Throwable", "fillInStackTrace", "(I)Ljava/lang/Throwable;"⟩, 6) := ⟨⟨by decide +kernel, by decide +kernel⟩, List.mem_of_getElem? (i := 650) (by decide +kernel), List.mem_of_getElem? (i := 648) (by decide +kernel), List.mem_of_getElem? (i := 649) (by decide +kernel)⟩
theorem lw_p27 : lw_okq (⟨"TrainDeskModel", "isPart", "(I)Z"⟩, 33) := ⟨⟨by decide +kernel, by decide +kernel⟩, List.mem_of_getElem? (i := 681) (by decide +kernel), List.mem_of_getElem? (i := 803) (by decide +kernel), List.mem_of_getElem? (i := 804) (by decide +kernel)⟩
theorem lw_p28 : lw_okq (⟨"TrainDeskModel", "isSet", "(I)Z"⟩, 33) := ⟨⟨by decide +kernel, by decide +kernel⟩, List.mem_of_getElem? (i := 681) (by decide +kernel), List.mem_of_getElem? (i := 822) (by decide +kernel), List.mem_of_getElem? (i := 823) (by decide +kernel)⟩
theorem lw_p29 : lw_okq (⟨"TrainDeskModel", "offered", "()I"⟩, 33) := ⟨⟨by decide +kernel, by decide +kernel⟩, List.mem_of_getElem? (i := 681) (by decide +kernel), List.mem_of_getElem? (i := 830) (by decide +kernel), List.mem_of_getElem? (i := 831) (by decide +kernel)⟩
theorem lw_p30 : lw_okq (⟨"TrainDeskModel", "broken", "(I)I"⟩, 33) := ⟨⟨by decide +kernel, by decide +kernel⟩, List.mem_of_getElem? (i := 681) (by decide +kernel), List.mem_of_getElem? (i := 834) (by decide +kernel), List.mem_of_getElem? (i := 835) (by decide +kernel)⟩
theorem lw_p31 : lw_okq (⟨"TrainDeskModel", "version", "(II)I"⟩, 33) := ⟨⟨by decide +kernel, by decide +kernel⟩, List.mem_of_getElem? (i := 681) (by decide +kernel), List.mem_of_getElem? (i := 838) (by decide +kernel), List.mem_of_getElem? (i := 839) (by decide +kernel)⟩
def lw_privs_2 : List (MethodName × Nat) := [(⟨"java/util/ArrayList", "grow", "(I)[Ljava/lang/Object;"⟩, 3), (⟨"TrainDesk", "endCut", "()V"⟩, 11), (⟨"TrainDesk", "latestOut", "()I"⟩, 11), (⟨"TrainDesk", "isStuck", "(I)Z"⟩, 11), (⟨"TrainDesk", "bringHome", "([II)V"⟩, 11), (⟨"TrainDesk", "dropOffersAtHome", "()V"⟩, 11), (⟨"TrainDesk$Hunt", "isRed", "(LTrainDesk$Tests;I)Z"⟩, 2), (⟨"TrainDesk$Hunt", "withoutPiece", "(LTrainDesk$Tests;I)I"⟩, 2), (⟨"TrainDesk", "isTrain", "(I)Z"⟩, 11), (⟨"TrainDesk", "trainsOut", "()I"⟩, 11), (⟨"java/lang/Throwable", "fillInStackTrace", "(I)Ljava/lang/Throwable;"⟩, 6), (⟨"TrainDeskModel", "isPart", "(I)Z"⟩, 33), (⟨"TrainDeskModel", "isSet", "(I)Z"⟩, 33), (⟨"TrainDeskModel", "offered", "()I"⟩, 33), (⟨"TrainDeskModel", "broken", "(I)I"⟩, 33), (⟨"TrainDeskModel", "version", "(II)I"⟩, 33)]
theorem lw_r2 : ∀ q ∈ lw_privs_2, lw_okq q := List.forall_mem_cons.mpr ⟨lw_p16, List.forall_mem_cons.mpr ⟨lw_p17, List.forall_mem_cons.mpr ⟨lw_p18, List.forall_mem_cons.mpr ⟨lw_p19, List.forall_mem_cons.mpr ⟨lw_p20, List.forall_mem_cons.mpr ⟨lw_p21, List.forall_mem_cons.mpr ⟨lw_p22, List.forall_mem_cons.mpr ⟨lw_p23, List.forall_mem_cons.mpr ⟨lw_p24, List.forall_mem_cons.mpr ⟨lw_p25, List.forall_mem_cons.mpr ⟨lw_p26, List.forall_mem_cons.mpr ⟨lw_p27, List.forall_mem_cons.mpr ⟨lw_p28, List.forall_mem_cons.mpr ⟨lw_p29, List.forall_mem_cons.mpr ⟨lw_p30, List.forall_mem_cons.mpr ⟨lw_p31, fun _ h => absurd h List.not_mem_nil⟩⟩⟩⟩⟩⟩⟩⟩⟩⟩⟩⟩⟩⟩⟩⟩
theorem lw_p32 : lw_okq (⟨"TrainDeskModel", "redOf", "(I)I"⟩, 33) := ⟨⟨by decide +kernel, by decide +kernel⟩, List.mem_of_getElem? (i := 681) (by decide +kernel), List.mem_of_getElem? (i := 846) (by decide +kernel), List.mem_of_getElem? (i := 847) (by decide +kernel)⟩
theorem lw_p33 : lw_okq (⟨"TrainDeskModel", "best", "(II)I"⟩, 33) := ⟨⟨by decide +kernel, by decide +kernel⟩, List.mem_of_getElem? (i := 681) (by decide +kernel), List.mem_of_getElem? (i := 854) (by decide +kernel), List.mem_of_getElem? (i := 855) (by decide +kernel)⟩
theorem lw_p34 : lw_okq (⟨"TrainDeskModel", "goes", "(I)Z"⟩, 33) := ⟨⟨by decide +kernel, by decide +kernel⟩, List.mem_of_getElem? (i := 681) (by decide +kernel), List.mem_of_getElem? (i := 858) (by decide +kernel), List.mem_of_getElem? (i := 859) (by decide +kernel)⟩
theorem lw_p35 : lw_okq (⟨"TrainDeskModel", "worthOf", "(I)I"⟩, 33) := ⟨⟨by decide +kernel, by decide +kernel⟩, List.mem_of_getElem? (i := 681) (by decide +kernel), List.mem_of_getElem? (i := 862) (by decide +kernel), List.mem_of_getElem? (i := 863) (by decide +kernel)⟩
theorem lw_p36 : lw_okq (⟨"TrainDeskModel", "tries", "(III)Z"⟩, 33) := ⟨⟨by decide +kernel, by decide +kernel⟩, List.mem_of_getElem? (i := 681) (by decide +kernel), List.mem_of_getElem? (i := 882) (by decide +kernel), List.mem_of_getElem? (i := 883) (by decide +kernel)⟩
theorem lw_p37 : lw_okq (⟨"TrainDeskModel", "orders", "()Z"⟩, 33) := ⟨⟨by decide +kernel, by decide +kernel⟩, List.mem_of_getElem? (i := 681) (by decide +kernel), List.mem_of_getElem? (i := 894) (by decide +kernel), List.mem_of_getElem? (i := 895) (by decide +kernel)⟩
theorem lw_p38 : lw_okq (⟨"TrainDeskModel", "goesOut", "(II)Z"⟩, 33) := ⟨⟨by decide +kernel, by decide +kernel⟩, List.mem_of_getElem? (i := 681) (by decide +kernel), List.mem_of_getElem? (i := 898) (by decide +kernel), List.mem_of_getElem? (i := 899) (by decide +kernel)⟩
theorem lw_p39 : lw_okq (⟨"TrainDeskModel", "next", "()V"⟩, 33) := ⟨⟨by decide +kernel, by decide +kernel⟩, List.mem_of_getElem? (i := 681) (by decide +kernel), List.mem_of_getElem? (i := 906) (by decide +kernel), List.mem_of_getElem? (i := 907) (by decide +kernel)⟩
theorem lw_p40 : lw_okq (⟨"TrainDeskModel", "way", "(II)I"⟩, 33) := ⟨⟨by decide +kernel, by decide +kernel⟩, List.mem_of_getElem? (i := 681) (by decide +kernel), List.mem_of_getElem? (i := 918) (by decide +kernel), List.mem_of_getElem? (i := 919) (by decide +kernel)⟩
theorem lw_p41 : lw_okq (⟨"TrainDeskModel", "blames", "(I)V"⟩, 33) := ⟨⟨by decide +kernel, by decide +kernel⟩, List.mem_of_getElem? (i := 681) (by decide +kernel), List.mem_of_getElem? (i := 932) (by decide +kernel), List.mem_of_getElem? (i := 933) (by decide +kernel)⟩
theorem lw_p42 : lw_okq (⟨"TrainDeskModel", "isRed", "(I)Z"⟩, 33) := ⟨⟨by decide +kernel, by decide +kernel⟩, List.mem_of_getElem? (i := 681) (by decide +kernel), List.mem_of_getElem? (i := 936) (by decide +kernel), List.mem_of_getElem? (i := 937) (by decide +kernel)⟩
theorem lw_p43 : lw_okq (⟨"TrainDeskModel", "piece", "(III)I"⟩, 33) := ⟨⟨by decide +kernel, by decide +kernel⟩, List.mem_of_getElem? (i := 681) (by decide +kernel), List.mem_of_getElem? (i := 941) (by decide +kernel), List.mem_of_getElem? (i := 942) (by decide +kernel)⟩
def lw_privs_3 : List (MethodName × Nat) := [(⟨"TrainDeskModel", "redOf", "(I)I"⟩, 33), (⟨"TrainDeskModel", "best", "(II)I"⟩, 33), (⟨"TrainDeskModel", "goes", "(I)Z"⟩, 33), (⟨"TrainDeskModel", "worthOf", "(I)I"⟩, 33), (⟨"TrainDeskModel", "tries", "(III)Z"⟩, 33), (⟨"TrainDeskModel", "orders", "()Z"⟩, 33), (⟨"TrainDeskModel", "goesOut", "(II)Z"⟩, 33), (⟨"TrainDeskModel", "next", "()V"⟩, 33), (⟨"TrainDeskModel", "way", "(II)I"⟩, 33), (⟨"TrainDeskModel", "blames", "(I)V"⟩, 33), (⟨"TrainDeskModel", "isRed", "(I)Z"⟩, 33), (⟨"TrainDeskModel", "piece", "(III)I"⟩, 33)]
theorem lw_r3 : ∀ q ∈ lw_privs_3, lw_okq q := List.forall_mem_cons.mpr ⟨lw_p32, List.forall_mem_cons.mpr ⟨lw_p33, List.forall_mem_cons.mpr ⟨lw_p34, List.forall_mem_cons.mpr ⟨lw_p35, List.forall_mem_cons.mpr ⟨lw_p36, List.forall_mem_cons.mpr ⟨lw_p37, List.forall_mem_cons.mpr ⟨lw_p38, List.forall_mem_cons.mpr ⟨lw_p39, List.forall_mem_cons.mpr ⟨lw_p40, List.forall_mem_cons.mpr ⟨lw_p41, List.forall_mem_cons.mpr ⟨lw_p42, List.forall_mem_cons.mpr ⟨lw_p43, fun _ h => absurd h List.not_mem_nil⟩⟩⟩⟩⟩⟩⟩⟩⟩⟩⟩⟩
def lw_privs : List (MethodName × Nat) := lw_privs_1 ++ (lw_privs_2 ++ (lw_privs_3))
def lw_tbl : List Cond := k2_sels lw_privs ++ tables_1
theorem lw_privs_ok : ∀ q ∈ lw_privs, lw_okq q := by
  show ∀ q ∈ lw_privs_1 ++ (lw_privs_2 ++ (lw_privs_3)), lw_okq q
  exact List.forall_mem_append.mpr ⟨lw_r1, List.forall_mem_append.mpr ⟨lw_r2, lw_r3⟩⟩
end
section
def RX0 : String := "TrainDesk$Hunt"
def TX0 : u_T := fun k => match k with
  | 0 => ("TrainDesk$Hunt", "least", "I", false)
  | _ => ("TrainDesk$Hunt", "spent", "I", false)
def tyX0 : Nat → FieldType := fun k => match k with
  | 0 => .int
  | _ => .int
theorem nmX0 : ∀ a, a < 2 → ∀ b, b < 2 → a ≠ b → (TX0 a).2.1 ≠ (TX0 b).2.1 := by decide +kernel
theorem tyX0_ok : ∀ k, k < 2 → parseFieldDescriptor (TX0 k).2.2.1 = some (tyX0 k) := by decide +kernel
abbrev cX0_init : ByteArray := prog_2_method_1_code
def yX0_init : MethodName := ⟨RX0, "<init>", "()V"⟩
abbrev cX0_follow : ByteArray := prog_2_method_2_code
def yX0_follow : MethodName := ⟨RX0, "follow", "(LTrainDesk$Tests;I)V"⟩
abbrev cX0_isRed : ByteArray := prog_2_method_3_code
def yX0_isRed : MethodName := ⟨RX0, "isRed", "(LTrainDesk$Tests;I)Z"⟩
abbrev cX0_withoutPiece : ByteArray := prog_2_method_4_code
def yX0_withoutPiece : MethodName := ⟨RX0, "withoutPiece", "(LTrainDesk$Tests;I)I"⟩
abbrev cX0_withoutLowest : ByteArray := prog_2_method_5_code
def yX0_withoutLowest : MethodName := ⟨RX0, "withoutLowest", "(II)I"⟩
def RX1 : String := "TrainDesk$Needs"
def TX1 : u_T := fun k => match k with
  | 0 => ("TrainDesk$Needs", "part", "[I", true)
  | 1 => ("TrainDesk$Needs", "version", "[I", true)
  | 2 => ("TrainDesk$Needs", "other", "[I", true)
  | 3 => ("TrainDesk$Needs", "lo", "[I", true)
  | 4 => ("TrainDesk$Needs", "hi", "[I", true)
  | 5 => ("TrainDesk$Needs", "asked", "[I", true)
  | 6 => ("TrainDesk$Needs", "breaks", "[I", true)
  | _ => ("TrainDesk$Needs", "size", "I", false)
def tyX1 : Nat → FieldType := fun k => match k with
  | 0 => .array .int
  | 1 => .array .int
  | 2 => .array .int
  | 3 => .array .int
  | 4 => .array .int
  | 5 => .array .int
  | 6 => .array .int
  | _ => .int
theorem nmX1 : ∀ a, a < 8 → ∀ b, b < 8 → a ≠ b → (TX1 a).2.1 ≠ (TX1 b).2.1 := by decide +kernel
theorem tyX1_ok : ∀ k, k < 8 → parseFieldDescriptor (TX1 k).2.2.1 = some (tyX1 k) := by decide +kernel
abbrev cX1_init : ByteArray := prog_3_method_1_code
def yX1_init : MethodName := ⟨RX1, "<init>", "()V"⟩
abbrev cX1_add : ByteArray := prog_3_method_2_code
def yX1_add : MethodName := ⟨RX1, "add", "(IIIII)I"⟩
abbrev cX1_weigh : ByteArray := prog_3_method_3_code
def yX1_weigh : MethodName := ⟨RX1, "weigh", "([ILTrainDesk$Offers;)V"⟩
abbrev cX1_weighOne : ByteArray := prog_3_method_4_code
def yX1_weighOne : MethodName := ⟨RX1, "weighOne", "(I[ILTrainDesk$Offers;)V"⟩
abbrev cX1_holds : ByteArray := prog_3_method_5_code
def yX1_holds : MethodName := ⟨RX1, "holds", "(II)Z"⟩
abbrev cX1_neverBreaks : ByteArray := prog_3_method_6_code
def yX1_neverBreaks : MethodName := ⟨RX1, "neverBreaks", "(I)V"⟩
abbrev cX1_firstBroken : ByteArray := prog_3_method_7_code
def yX1_firstBroken : MethodName := ⟨RX1, "firstBroken", "(I)I"⟩
def RX2 : String := "TrainDesk$Offers"
def TX2 : u_T := fun k => match k with
  | 0 => ("TrainDesk$Offers", "versions", "[I", true)
  | _ => ("TrainDesk$Offers", "worths", "[I", true)
def tyX2 : Nat → FieldType := fun k => match k with
  | 0 => .array .int
  | _ => .array .int
theorem nmX2 : ∀ a, a < 2 → ∀ b, b < 2 → a ≠ b → (TX2 a).2.1 ≠ (TX2 b).2.1 := by decide +kernel
theorem tyX2_ok : ∀ k, k < 2 → parseFieldDescriptor (TX2 k).2.2.1 = some (tyX2 k) := by decide +kernel
abbrev cX2_init : ByteArray := prog_4_method_1_code
def yX2_init : MethodName := ⟨RX2, "<init>", "()V"⟩
abbrev cX2_has : ByteArray := prog_4_method_2_code
def yX2_has : MethodName := ⟨RX2, "has", "(I)Z"⟩
abbrev cX2_versionOf : ByteArray := prog_4_method_3_code
def yX2_versionOf : MethodName := ⟨RX2, "versionOf", "(I)I"⟩
abbrev cX2_worthOf : ByteArray := prog_4_method_4_code
def yX2_worthOf : MethodName := ⟨RX2, "worthOf", "(I)I"⟩
abbrev cX2_put : ByteArray := prog_4_method_5_code
def yX2_put : MethodName := ⟨RX2, "put", "(III)V"⟩
abbrev cX2_drop : ByteArray := prog_4_method_6_code
def yX2_drop : MethodName := ⟨RX2, "drop", "(I)V"⟩
abbrev cX2_mask : ByteArray := prog_4_method_7_code
def yX2_mask : MethodName := ⟨RX2, "mask", "()I"⟩
abbrev cX2_sum : ByteArray := prog_4_method_8_code
def yX2_sum : MethodName := ⟨RX2, "sum", "(I)I"⟩
def RX3 : String := "TrainDesk$OneWays"
def TX3 : u_T := fun k => match k with
  | 0 => ("TrainDesk$OneWays", "parts", "[I", true)
  | 1 => ("TrainDesk$OneWays", "versions", "[I", true)
  | _ => ("TrainDesk$OneWays", "size", "I", false)
def tyX3 : Nat → FieldType := fun k => match k with
  | 0 => .array .int
  | 1 => .array .int
  | _ => .int
theorem nmX3 : ∀ a, a < 3 → ∀ b, b < 3 → a ≠ b → (TX3 a).2.1 ≠ (TX3 b).2.1 := by decide +kernel
theorem tyX3_ok : ∀ k, k < 3 → parseFieldDescriptor (TX3 k).2.2.1 = some (tyX3 k) := by decide +kernel
abbrev cX3_init : ByteArray := prog_5_method_1_code
def yX3_init : MethodName := ⟨RX3, "<init>", "()V"⟩
abbrev cX3_find : ByteArray := prog_5_method_2_code
def yX3_find : MethodName := ⟨RX3, "find", "(II)I"⟩
abbrev cX3_add : ByteArray := prog_5_method_3_code
def yX3_add : MethodName := ⟨RX3, "add", "(II)Z"⟩
abbrev cX3_remove : ByteArray := prog_5_method_4_code
def yX3_remove : MethodName := ⟨RX3, "remove", "(II)Z"⟩
def RX4 : String := "TrainDesk$Route"
def TX4 : u_T := fun k => match k with
  | 0 => ("TrainDesk$Route", "path", "[I", true)
  | _ => ("TrainDesk$Route", "length", "I", false)
def tyX4 : Nat → FieldType := fun k => match k with
  | 0 => .array .int
  | _ => .int
theorem nmX4 : ∀ a, a < 2 → ∀ b, b < 2 → a ≠ b → (TX4 a).2.1 ≠ (TX4 b).2.1 := by decide +kernel
theorem tyX4_ok : ∀ k, k < 2 → parseFieldDescriptor (TX4 k).2.2.1 = some (tyX4 k) := by decide +kernel
abbrev cX4_init : ByteArray := prog_6_method_1_code
def yX4_init : MethodName := ⟨RX4, "<init>", "()V"⟩
abbrev cX4_isFound : ByteArray := prog_6_method_2_code
def yX4_isFound : MethodName := ⟨RX4, "isFound", "()Z"⟩
abbrev cX4_partAt : ByteArray := prog_6_method_3_code
def yX4_partAt : MethodName := ⟨RX4, "partAt", "(I)I"⟩
abbrev cX4_plan : ByteArray := prog_6_method_4_code
def yX4_plan : MethodName := ⟨RX4, "plan", "(LTrainDesk$Needs;I)V"⟩
abbrev cX4_firstOpen : ByteArray := prog_6_method_5_code
def yX4_firstOpen : MethodName := ⟨RX4, "firstOpen", "(LTrainDesk$Needs;II)I"⟩
def RX5 : String := "TrainDesk$Tests"
def TX5 : u_T := fun k => match k with
  | 0 => ("TrainDesk$Tests", "sets", "[I", true)
  | _ => ("TrainDesk$Tests", "size", "I", false)
def tyX5 : Nat → FieldType := fun k => match k with
  | 0 => .array .int
  | _ => .int
theorem nmX5 : ∀ a, a < 2 → ∀ b, b < 2 → a ≠ b → (TX5 a).2.1 ≠ (TX5 b).2.1 := by decide +kernel
theorem tyX5_ok : ∀ k, k < 2 → parseFieldDescriptor (TX5 k).2.2.1 = some (tyX5 k) := by decide +kernel
abbrev cX5_init : ByteArray := prog_7_method_1_code
def yX5_init : MethodName := ⟨RX5, "<init>", "()V"⟩
abbrev cX5_add : ByteArray := prog_7_method_2_code
def yX5_add : MethodName := ⟨RX5, "add", "(I)I"⟩
abbrev cX5_firstRed : ByteArray := prog_7_method_3_code
def yX5_firstRed : MethodName := ⟨RX5, "firstRed", "(I)I"⟩
def RX6 : String := "TrainDesk$Train"
def TX6 : u_T := fun k => match k with
  | 0 => ("TrainDesk$Train", "ahead", "[I", true)
  | 1 => ("TrainDesk$Train", "behind", "[I", true)
  | 2 => ("TrainDesk$Train", "load", "I", true)
  | _ => ("TrainDesk$Train", "isBack", "Z", false)
def tyX6 : Nat → FieldType := fun k => match k with
  | 0 => .array .int
  | 1 => .array .int
  | 2 => .int
  | _ => .boolean
theorem nmX6 : ∀ a, a < 4 → ∀ b, b < 4 → a ≠ b → (TX6 a).2.1 ≠ (TX6 b).2.1 := by decide +kernel
theorem tyX6_ok : ∀ k, k < 4 → parseFieldDescriptor (TX6 k).2.2.1 = some (tyX6 k) := by decide +kernel
abbrev cX6_init : ByteArray := prog_8_method_1_code
def yX6_init : MethodName := ⟨RX6, "<init>", "([I[II)V"⟩
def RX7 : String := "TrainDesk"
def TX7 : u_T := fun k => match k with
  | 0 => ("TrainDesk", "home", "[I", true)
  | 1 => ("TrainDesk", "offers", "LTrainDesk$Offers;", true)
  | 2 => ("TrainDesk", "kept", "LTrainDesk$Offers;", true)
  | 3 => ("TrainDesk", "needs", "LTrainDesk$Needs;", true)
  | 4 => ("TrainDesk", "tests", "LTrainDesk$Tests;", true)
  | 5 => ("TrainDesk", "route", "LTrainDesk$Route;", true)
  | 6 => ("TrainDesk", "hunt", "LTrainDesk$Hunt;", true)
  | 7 => ("TrainDesk", "oneWays", "LTrainDesk$OneWays;", true)
  | 8 => ("TrainDesk", "trains", "Ljava/util/ArrayList;", true)
  | 9 => ("TrainDesk", "parts", "I", false)
  | _ => ("TrainDesk", "chosen", "I", false)
def tyX7 : Nat → FieldType := fun k => match k with
  | 0 => .array .int
  | 1 => .object "TrainDesk$Offers"
  | 2 => .object "TrainDesk$Offers"
  | 3 => .object "TrainDesk$Needs"
  | 4 => .object "TrainDesk$Tests"
  | 5 => .object "TrainDesk$Route"
  | 6 => .object "TrainDesk$Hunt"
  | 7 => .object "TrainDesk$OneWays"
  | 8 => .object "java/util/ArrayList"
  | 9 => .int
  | _ => .int
theorem nmX7 : ∀ a, a < 11 → ∀ b, b < 11 → a ≠ b → (TX7 a).2.1 ≠ (TX7 b).2.1 := by decide +kernel
theorem tyX7_ok : ∀ k, k < 11 → parseFieldDescriptor (TX7 k).2.2.1 = some (tyX7 k) := by decide +kernel
abbrev cX7_init : ByteArray := prog_1_method_1_code
def yX7_init : MethodName := ⟨RX7, "<init>", "()V"⟩
abbrev cX7_part : ByteArray := prog_1_method_2_code
def yX7_part : MethodName := ⟨RX7, "part", "(I)I"⟩
abbrev cX7_offer : ByteArray := prog_1_method_3_code
def yX7_offer : MethodName := ⟨RX7, "offer", "(III)Z"⟩
abbrev cX7_withdraw : ByteArray := prog_1_method_4_code
def yX7_withdraw : MethodName := ⟨RX7, "withdraw", "(I)Z"⟩
abbrev cX7_need : ByteArray := prog_1_method_5_code
def yX7_need : MethodName := ⟨RX7, "need", "(IIIII)I"⟩
abbrev cX7_test : ByteArray := prog_1_method_6_code
def yX7_test : MethodName := ⟨RX7, "test", "(I)I"⟩
abbrev cX7_fits : ByteArray := prog_1_method_7_code
def yX7_fits : MethodName := ⟨RX7, "fits", "(I)I"⟩
abbrev cX7_red : ByteArray := prog_1_method_8_code
def yX7_red : MethodName := ⟨RX7, "red", "(I)I"⟩
abbrev cX7_cut : ByteArray := prog_1_method_9_code
def yX7_cut : MethodName := ⟨RX7, "cut", "()I"⟩
abbrev cX7_chosen : ByteArray := prog_1_method_10_code
def yX7_chosen : MethodName := ⟨RX7, "chosen", "()I"⟩
abbrev cX7_worth : ByteArray := prog_1_method_11_code
def yX7_worth : MethodName := ⟨RX7, "worth", "()I"⟩
abbrev cX7_why : ByteArray := prog_1_method_12_code
def yX7_why : MethodName := ⟨RX7, "why", "(I)I"⟩
abbrev cX7_fix : ByteArray := prog_1_method_13_code
def yX7_fix : MethodName := ⟨RX7, "fix", "(III)I"⟩
abbrev cX7_leave : ByteArray := prog_1_method_14_code
def yX7_leave : MethodName := ⟨RX7, "leave", "(III)I"⟩
abbrev cX7_order : ByteArray := prog_1_method_15_code
def yX7_order : MethodName := ⟨RX7, "order", "(I)I"⟩
abbrev cX7_send : ByteArray := prog_1_method_16_code
def yX7_send : MethodName := ⟨RX7, "send", "()I"⟩
abbrev cX7_giveUp : ByteArray := prog_1_method_17_code
def yX7_giveUp : MethodName := ⟨RX7, "giveUp", "()Z"⟩
abbrev cX7_oneWay : ByteArray := prog_1_method_18_code
def yX7_oneWay : MethodName := ⟨RX7, "oneWay", "(IIZ)Z"⟩
abbrev cX7_back : ByteArray := prog_1_method_19_code
def yX7_back : MethodName := ⟨RX7, "back", "()I"⟩
abbrev cX7_blame : ByteArray := prog_1_method_20_code
def yX7_blame : MethodName := ⟨RX7, "blame", "(I)I"⟩
abbrev cX7_runs : ByteArray := prog_1_method_21_code
def yX7_runs : MethodName := ⟨RX7, "runs", "(I)I"⟩
abbrev cX7_told : ByteArray := prog_1_method_22_code
def yX7_told : MethodName := ⟨RX7, "told", "(II)I"⟩
abbrev cX7_was : ByteArray := prog_1_method_23_code
def yX7_was : MethodName := ⟨RX7, "was", "(IIZ)I"⟩
abbrev cX7_brought : ByteArray := prog_1_method_24_code
def yX7_brought : MethodName := ⟨RX7, "brought", "(I)I"⟩
abbrev cX7_count : ByteArray := prog_1_method_25_code
def yX7_count : MethodName := ⟨RX7, "count", "(I)I"⟩
abbrev cX7_isVersion : ByteArray := prog_1_method_26_code
def yX7_isVersion : MethodName := ⟨RX7, "isVersion", "(I)Z"⟩
abbrev cX7_isWorth : ByteArray := prog_1_method_27_code
def yX7_isWorth : MethodName := ⟨RX7, "isWorth", "(I)Z"⟩
abbrev cX7_isPart : ByteArray := prog_1_method_28_code
def yX7_isPart : MethodName := ⟨RX7, "isPart", "(I)Z"⟩
abbrev cX7_areParts : ByteArray := prog_1_method_29_code
def yX7_areParts : MethodName := ⟨RX7, "areParts", "(I)Z"⟩
abbrev cX7_isTrain : ByteArray := prog_1_method_30_code
def yX7_isTrain : MethodName := ⟨RX7, "isTrain", "(I)Z"⟩
abbrev cX7_isCutAtHand : ByteArray := prog_1_method_31_code
def yX7_isCutAtHand : MethodName := ⟨RX7, "isCutAtHand", "()Z"⟩
abbrev cX7_isChosen : ByteArray := prog_1_method_32_code
def yX7_isChosen : MethodName := ⟨RX7, "isChosen", "(I)Z"⟩
abbrev cX7_homeToCome : ByteArray := prog_1_method_33_code
def yX7_homeToCome : MethodName := ⟨RX7, "homeToCome", "(I)I"⟩
abbrev cX7_openOffers : ByteArray := prog_1_method_34_code
def yX7_openOffers : MethodName := ⟨RX7, "openOffers", "()LTrainDesk$Offers;"⟩
abbrev cX7_mayFix : ByteArray := prog_1_method_35_code
def yX7_mayFix : MethodName := ⟨RX7, "mayFix", "(III)Z"⟩
abbrev cX7_firstBroken : ByteArray := prog_1_method_36_code
def yX7_firstBroken : MethodName := ⟨RX7, "firstBroken", "(I)I"⟩
abbrev cX7_goes : ByteArray := prog_1_method_37_code
def yX7_goes : MethodName := ⟨RX7, "goes", "(I)Z"⟩
abbrev cX7_greatest : ByteArray := prog_1_method_38_code
def yX7_greatest : MethodName := ⟨RX7, "greatest", "(II)I"⟩
abbrev cX7_hasLowerPart : ByteArray := prog_1_method_39_code
def yX7_hasLowerPart : MethodName := ⟨RX7, "hasLowerPart", "(II)Z"⟩
abbrev cX7_choose : ByteArray := prog_1_method_40_code
def yX7_choose : MethodName := ⟨RX7, "choose", "(I)V"⟩
abbrev cX7_endCut : ByteArray := prog_1_method_41_code
def yX7_endCut : MethodName := ⟨RX7, "endCut", "()V"⟩
abbrev cX7_latestOut : ByteArray := prog_1_method_42_code
def yX7_latestOut : MethodName := ⟨RX7, "latestOut", "()I"⟩
abbrev cX7_trainsOut : ByteArray := prog_1_method_43_code
def yX7_trainsOut : MethodName := ⟨RX7, "trainsOut", "()I"⟩
abbrev cX7_isStuck : ByteArray := prog_1_method_44_code
def yX7_isStuck : MethodName := ⟨RX7, "isStuck", "(I)Z"⟩
abbrev cX7_bringHome : ByteArray := prog_1_method_45_code
def yX7_bringHome : MethodName := ⟨RX7, "bringHome", "([II)V"⟩
abbrev cX7_dropOffersAtHome : ByteArray := prog_1_method_46_code
def yX7_dropOffersAtHome : MethodName := ⟨RX7, "dropOffersAtHome", "()V"⟩
def RX8 : String := "TrainDeskModel"
def TX8 : u_T := fun k => match k with
  | 0 => ("TrainDeskModel", "thrown", "I", false)
  | 1 => ("TrainDeskModel", "home", "[I", true)
  | 2 => ("TrainDeskModel", "offer", "[I", true)
  | 3 => ("TrainDeskModel", "worth", "[I", true)
  | 4 => ("TrainDeskModel", "keptOffer", "[I", true)
  | 5 => ("TrainDeskModel", "keptWorth", "[I", true)
  | 6 => ("TrainDeskModel", "needPart", "[I", true)
  | 7 => ("TrainDeskModel", "needVersion", "[I", true)
  | 8 => ("TrainDeskModel", "needOther", "[I", true)
  | 9 => ("TrainDeskModel", "needLow", "[I", true)
  | 10 => ("TrainDeskModel", "needHigh", "[I", true)
  | 11 => ("TrainDeskModel", "test", "[I", true)
  | 12 => ("TrainDeskModel", "wayPart", "[I", true)
  | 13 => ("TrainDeskModel", "wayVersion", "[I", true)
  | 14 => ("TrainDeskModel", "trainParts", "[I", true)
  | 15 => ("TrainDeskModel", "trainSet", "[I", true)
  | 16 => ("TrainDeskModel", "before", "[I", true)
  | 17 => ("TrainDeskModel", "after", "[I", true)
  | 18 => ("TrainDeskModel", "isBack", "[Z", true)
  | 19 => ("TrainDeskModel", "parts", "I", false)
  | 20 => ("TrainDeskModel", "needs", "I", false)
  | 21 => ("TrainDeskModel", "tests", "I", false)
  | 22 => ("TrainDeskModel", "ways", "I", false)
  | 23 => ("TrainDeskModel", "trains", "I", false)
  | 24 => ("TrainDeskModel", "chosen", "I", false)
  | 25 => ("TrainDeskModel", "isCut", "Z", false)
  | 26 => ("TrainDeskModel", "oldOffer", "I", false)
  | 27 => ("TrainDeskModel", "oldWorth", "I", false)
  | 28 => ("TrainDeskModel", "isTried", "[Z", true)
  | 29 => ("TrainDeskModel", "row", "[I", true)
  | 30 => ("TrainDeskModel", "rowMany", "I", false)
  | 31 => ("TrainDeskModel", "blamed", "I", false)
  | _ => ("TrainDeskModel", "runs", "I", false)
def tyX8 : Nat → FieldType := fun k => match k with
  | 0 => .int
  | 1 => .array .int
  | 2 => .array .int
  | 3 => .array .int
  | 4 => .array .int
  | 5 => .array .int
  | 6 => .array .int
  | 7 => .array .int
  | 8 => .array .int
  | 9 => .array .int
  | 10 => .array .int
  | 11 => .array .int
  | 12 => .array .int
  | 13 => .array .int
  | 14 => .array .int
  | 15 => .array .int
  | 16 => .array .int
  | 17 => .array .int
  | 18 => .array .boolean
  | 19 => .int
  | 20 => .int
  | 21 => .int
  | 22 => .int
  | 23 => .int
  | 24 => .int
  | 25 => .boolean
  | 26 => .int
  | 27 => .int
  | 28 => .array .boolean
  | 29 => .array .int
  | 30 => .int
  | 31 => .int
  | _ => .int
theorem nmX8 : ∀ a, a < 33 → ∀ b, b < 33 → a ≠ b → (TX8 a).2.1 ≠ (TX8 b).2.1 := by decide +kernel
theorem tyX8_ok : ∀ k, k < 33 → parseFieldDescriptor (TX8 k).2.2.1 = some (tyX8 k) := by decide +kernel
abbrev cX8_init : ByteArray := prog_10_method_1_code
def yX8_init : MethodName := ⟨RX8, "<init>", "()V"⟩
abbrev cX8_thrown : ByteArray := prog_10_method_2_code
def yX8_thrown : MethodName := ⟨RX8, "thrown", "()I"⟩
abbrev cX8_isIn : ByteArray := prog_10_method_3_code
def yX8_isIn : MethodName := ⟨RX8, "isIn", "(III)Z"⟩
abbrev cX8_isPart : ByteArray := prog_10_method_4_code
def yX8_isPart : MethodName := ⟨RX8, "isPart", "(I)Z"⟩
abbrev cX8_isOf : ByteArray := prog_10_method_5_code
def yX8_isOf : MethodName := ⟨RX8, "isOf", "(II)Z"⟩
abbrev cX8_part : ByteArray := prog_10_method_6_code
def yX8_part : MethodName := ⟨RX8, "part", "(I)I"⟩
abbrev cX8_offer : ByteArray := prog_10_method_7_code
def yX8_offer : MethodName := ⟨RX8, "offer", "(III)Z"⟩
abbrev cX8_withdraw : ByteArray := prog_10_method_8_code
def yX8_withdraw : MethodName := ⟨RX8, "withdraw", "(I)Z"⟩
abbrev cX8_need : ByteArray := prog_10_method_9_code
def yX8_need : MethodName := ⟨RX8, "need", "(IIIII)I"⟩
abbrev cX8_isSet : ByteArray := prog_10_method_10_code
def yX8_isSet : MethodName := ⟨RX8, "isSet", "(I)Z"⟩
abbrev cX8_test : ByteArray := prog_10_method_11_code
def yX8_test : MethodName := ⟨RX8, "test", "(I)I"⟩
abbrev cX8_version : ByteArray := prog_10_method_12_code
def yX8_version : MethodName := ⟨RX8, "version", "(II)I"⟩
abbrev cX8_broken : ByteArray := prog_10_method_13_code
def yX8_broken : MethodName := ⟨RX8, "broken", "(I)I"⟩
abbrev cX8_redOf : ByteArray := prog_10_method_14_code
def yX8_redOf : MethodName := ⟨RX8, "redOf", "(I)I"⟩
abbrev cX8_offered : ByteArray := prog_10_method_15_code
def yX8_offered : MethodName := ⟨RX8, "offered", "()I"⟩
abbrev cX8_goes : ByteArray := prog_10_method_16_code
def yX8_goes : MethodName := ⟨RX8, "goes", "(I)Z"⟩
abbrev cX8_worthOf : ByteArray := prog_10_method_17_code
def yX8_worthOf : MethodName := ⟨RX8, "worthOf", "(I)I"⟩
abbrev cX8_best : ByteArray := prog_10_method_18_code
def yX8_best : MethodName := ⟨RX8, "best", "(II)I"⟩
abbrev cX8_fits : ByteArray := prog_10_method_19_code
def yX8_fits : MethodName := ⟨RX8, "fits", "(I)I"⟩
abbrev cX8_red : ByteArray := prog_10_method_20_code
def yX8_red : MethodName := ⟨RX8, "red", "(I)I"⟩
abbrev cX8_cut : ByteArray := prog_10_method_21_code
def yX8_cut : MethodName := ⟨RX8, "cut", "()I"⟩
abbrev cX8_chosen : ByteArray := prog_10_method_22_code
def yX8_chosen : MethodName := ⟨RX8, "chosen", "()I"⟩
abbrev cX8_worth : ByteArray := prog_10_method_23_code
def yX8_worth : MethodName := ⟨RX8, "worth", "()I"⟩
abbrev cX8_why : ByteArray := prog_10_method_24_code
def yX8_why : MethodName := ⟨RX8, "why", "(I)I"⟩
abbrev cX8_tries : ByteArray := prog_10_method_25_code
def yX8_tries : MethodName := ⟨RX8, "tries", "(III)Z"⟩
abbrev cX8_fix : ByteArray := prog_10_method_26_code
def yX8_fix : MethodName := ⟨RX8, "fix", "(III)I"⟩
abbrev cX8_leave : ByteArray := prog_10_method_27_code
def yX8_leave : MethodName := ⟨RX8, "leave", "(III)I"⟩
abbrev cX8_goesOut : ByteArray := prog_10_method_28_code
def yX8_goesOut : MethodName := ⟨RX8, "goesOut", "(II)Z"⟩
abbrev cX8_orders : ByteArray := prog_10_method_29_code
def yX8_orders : MethodName := ⟨RX8, "orders", "()Z"⟩
abbrev cX8_order : ByteArray := prog_10_method_30_code
def yX8_order : MethodName := ⟨RX8, "order", "(I)I"⟩
abbrev cX8_next : ByteArray := prog_10_method_31_code
def yX8_next : MethodName := ⟨RX8, "next", "()V"⟩
abbrev cX8_send : ByteArray := prog_10_method_32_code
def yX8_send : MethodName := ⟨RX8, "send", "()I"⟩
abbrev cX8_giveUp : ByteArray := prog_10_method_33_code
def yX8_giveUp : MethodName := ⟨RX8, "giveUp", "()Z"⟩
abbrev cX8_way : ByteArray := prog_10_method_34_code
def yX8_way : MethodName := ⟨RX8, "way", "(II)I"⟩
abbrev cX8_oneWay : ByteArray := prog_10_method_35_code
def yX8_oneWay : MethodName := ⟨RX8, "oneWay", "(IIZ)Z"⟩
abbrev cX8_back : ByteArray := prog_10_method_36_code
def yX8_back : MethodName := ⟨RX8, "back", "()I"⟩
abbrev cX8_isRed : ByteArray := prog_10_method_37_code
def yX8_isRed : MethodName := ⟨RX8, "isRed", "(I)Z"⟩
abbrev cX8_piece : ByteArray := prog_10_method_38_code
def yX8_piece : MethodName := ⟨RX8, "piece", "(III)I"⟩
abbrev cX8_blames : ByteArray := prog_10_method_39_code
def yX8_blames : MethodName := ⟨RX8, "blames", "(I)V"⟩
abbrev cX8_blame : ByteArray := prog_10_method_40_code
def yX8_blame : MethodName := ⟨RX8, "blame", "(I)I"⟩
abbrev cX8_runs : ByteArray := prog_10_method_41_code
def yX8_runs : MethodName := ⟨RX8, "runs", "(I)I"⟩
abbrev cX8_told : ByteArray := prog_10_method_42_code
def yX8_told : MethodName := ⟨RX8, "told", "(II)I"⟩
abbrev cX8_was : ByteArray := prog_10_method_43_code
def yX8_was : MethodName := ⟨RX8, "was", "(IIZ)I"⟩
abbrev cX8_brought : ByteArray := prog_10_method_44_code
def yX8_brought : MethodName := ⟨RX8, "brought", "(I)I"⟩
abbrev cX8_count : ByteArray := prog_10_method_45_code
def yX8_count : MethodName := ⟨RX8, "count", "(I)I"⟩
def RJx145de : String := "java/io/Serializable"
def TJx145de : u_T := fun k => match k with
  | _ => ("", "", "", false)
def tyJx145de : Nat → FieldType := fun k => match k with
  | _ => .int
theorem nmJx145de : ∀ a, a < 0 → ∀ b, b < 0 → a ≠ b → (TJx145de a).2.1 ≠ (TJx145de b).2.1 := by decide +kernel
theorem tyJx145de_ok : ∀ k, k < 0 → parseFieldDescriptor (TJx145de k).2.2.1 = some (tyJx145de k) := by decide +kernel
def RJx8e188 : String := "java/lang/Cloneable"
def TJx8e188 : u_T := fun k => match k with
  | _ => ("", "", "", false)
def tyJx8e188 : Nat → FieldType := fun k => match k with
  | _ => .int
theorem nmJx8e188 : ∀ a, a < 0 → ∀ b, b < 0 → a ≠ b → (TJx8e188 a).2.1 ≠ (TJx8e188 b).2.1 := by decide +kernel
theorem tyJx8e188_ok : ∀ k, k < 0 → parseFieldDescriptor (TJx8e188 k).2.2.1 = some (tyJx8e188 k) := by decide +kernel
def RJ6 : String := "java/lang/Integer"
def TJ6 : u_T := fun k => match k with
  | _ => ("", "", "", false)
def tyJ6 : Nat → FieldType := fun k => match k with
  | _ => .int
theorem nmJ6 : ∀ a, a < 0 → ∀ b, b < 0 → a ≠ b → (TJ6 a).2.1 ≠ (TJ6 b).2.1 := by decide +kernel
theorem tyJ6_ok : ∀ k, k < 0 → parseFieldDescriptor (TJ6 k).2.2.1 = some (tyJ6 k) := by decide +kernel
abbrev cJ6_lowestOneBit_0f7a4 : ByteArray := prog_14_method_46_code
def yJ6_lowestOneBit_0f7a4 : MethodName := ⟨RJ6, "lowestOneBit", "(I)I"⟩
abbrev cJ6_bitCount_0f7a4 : ByteArray := prog_14_method_49_code
def yJ6_bitCount_0f7a4 : MethodName := ⟨RJ6, "bitCount", "(I)I"⟩
def RJxab1ab : String := "java/lang/Iterable"
def TJxab1ab : u_T := fun k => match k with
  | _ => ("", "", "", false)
def tyJxab1ab : Nat → FieldType := fun k => match k with
  | _ => .int
theorem nmJxab1ab : ∀ a, a < 0 → ∀ b, b < 0 → a ≠ b → (TJxab1ab a).2.1 ≠ (TJxab1ab b).2.1 := by decide +kernel
theorem tyJxab1ab_ok : ∀ k, k < 0 → parseFieldDescriptor (TJxab1ab k).2.2.1 = some (tyJxab1ab k) := by decide +kernel
def RJ9 : String := "java/lang/Math"
def TJ9 : u_T := fun k => match k with
  | _ => ("", "", "", false)
def tyJ9 : Nat → FieldType := fun k => match k with
  | _ => .int
theorem nmJ9 : ∀ a, a < 0 → ∀ b, b < 0 → a ≠ b → (TJ9 a).2.1 ≠ (TJ9 b).2.1 := by decide +kernel
theorem tyJ9_ok : ∀ k, k < 0 → parseFieldDescriptor (TJ9 k).2.2.1 = some (tyJ9 k) := by decide +kernel
abbrev cJ9_max_7cf53 : ByteArray := prog_16_method_65_code
def yJ9_max_7cf53 : MethodName := ⟨RJ9, "max", "(II)I"⟩
abbrev cJ9_min_7cf53 : ByteArray := prog_16_method_69_code
def yJ9_min_7cf53 : MethodName := ⟨RJ9, "min", "(II)I"⟩
def RJ0 : String := "java/lang/String"
def TJ0 : u_T := fun k => match k with
  | _ => ("", "", "", false)
def tyJ0 : Nat → FieldType := fun k => match k with
  | _ => .int
theorem nmJ0 : ∀ a, a < 0 → ∀ b, b < 0 → a ≠ b → (TJ0 a).2.1 ≠ (TJ0 b).2.1 := by decide +kernel
theorem tyJ0_ok : ∀ k, k < 0 → parseFieldDescriptor (TJ0 k).2.2.1 = some (tyJ0 k) := by decide +kernel
def RJ10 : String := "java/lang/System"
def TJ10 : u_T := fun k => match k with
  | _ => ("", "", "", false)
def tyJ10 : Nat → FieldType := fun k => match k with
  | _ => .int
theorem nmJ10 : ∀ a, a < 0 → ∀ b, b < 0 → a ≠ b → (TJ10 a).2.1 ≠ (TJ10 b).2.1 := by decide +kernel
theorem tyJ10_ok : ∀ k, k < 0 → parseFieldDescriptor (TJ10 k).2.2.1 = some (tyJ10 k) := by decide +kernel
def RJxa1e45 : String := "java/util/AbstractCollection"
def TJxa1e45 : u_T := fun k => match k with
  | _ => ("", "", "", false)
def tyJxa1e45 : Nat → FieldType := fun k => match k with
  | _ => .int
theorem nmJxa1e45 : ∀ a, a < 0 → ∀ b, b < 0 → a ≠ b → (TJxa1e45 a).2.1 ≠ (TJxa1e45 b).2.1 := by decide +kernel
theorem tyJxa1e45_ok : ∀ k, k < 0 → parseFieldDescriptor (TJxa1e45 k).2.2.1 = some (tyJxa1e45 k) := by decide +kernel
abbrev cJxa1e45_init_da8c8 : ByteArray := prog_21_method_1_code
def yJxa1e45_init_da8c8 : MethodName := ⟨RJxa1e45, "<init>", "()V"⟩
def RJxc12de : String := "java/util/AbstractList"
def TJxc12de : u_T := fun k => match k with
  | _ => ("", "", "", false)
def tyJxc12de : Nat → FieldType := fun k => match k with
  | _ => .int
theorem nmJxc12de : ∀ a, a < 0 → ∀ b, b < 0 → a ≠ b → (TJxc12de a).2.1 ≠ (TJxc12de b).2.1 := by decide +kernel
theorem tyJxc12de_ok : ∀ k, k < 0 → parseFieldDescriptor (TJxc12de k).2.2.1 = some (tyJxc12de k) := by decide +kernel
abbrev cJxc12de_init_da8c8 : ByteArray := prog_22_method_1_code
def yJxc12de_init_da8c8 : MethodName := ⟨RJxc12de, "<init>", "()V"⟩
def RJx4a65c : String := "java/util/ArrayList"
def TJx4a65c : u_T := fun k => match k with
  | 0 => ("java/util/AbstractList", "modCount", "I", false)
  | 1 => ("java/util/ArrayList", "elementData", "[Ljava/lang/Object;", false)
  | _ => ("java/util/ArrayList", "size", "I", false)
def tyJx4a65c : Nat → FieldType := fun k => match k with
  | 0 => .int
  | 1 => .array (.object "java/lang/Object")
  | _ => .int
theorem nmJx4a65c : ∀ a, a < 3 → ∀ b, b < 3 → a ≠ b → (TJx4a65c a).2.1 ≠ (TJx4a65c b).2.1 := by decide +kernel
theorem tyJx4a65c_ok : ∀ k, k < 3 → parseFieldDescriptor (TJx4a65c k).2.2.1 = some (tyJx4a65c k) := by decide +kernel
abbrev cJx4a65c_init_da8c8 : ByteArray := prog_23_method_2_code
def yJx4a65c_init_da8c8 : MethodName := ⟨RJx4a65c, "<init>", "()V"⟩
abbrev cJx4a65c_grow_92f84 : ByteArray := prog_23_method_6_code
def yJx4a65c_grow_92f84 : MethodName := ⟨RJx4a65c, "grow", "(I)[Ljava/lang/Object;"⟩
abbrev cJx4a65c_grow_d5877 : ByteArray := prog_23_method_7_code
def yJx4a65c_grow_d5877 : MethodName := ⟨RJx4a65c, "grow", "()[Ljava/lang/Object;"⟩
abbrev cJx4a65c_size_8abf5 : ByteArray := prog_23_method_8_code
def yJx4a65c_size_8abf5 : MethodName := ⟨RJx4a65c, "size", "()I"⟩
abbrev cJx4a65c_elementData_915e3 : ByteArray := prog_23_method_18_code
def yJx4a65c_elementData_915e3 : MethodName := ⟨RJx4a65c, "elementData", "(I)Ljava/lang/Object;"⟩
abbrev cJx4a65c_get_915e3 : ByteArray := prog_23_method_20_code
def yJx4a65c_get_915e3 : MethodName := ⟨RJx4a65c, "get", "(I)Ljava/lang/Object;"⟩
abbrev cJx4a65c_add_72be8 : ByteArray := prog_23_method_24_code
def yJx4a65c_add_72be8 : MethodName := ⟨RJx4a65c, "add", "(Ljava/lang/Object;[Ljava/lang/Object;I)V"⟩
abbrev cJx4a65c_add_9ea2d : ByteArray := prog_23_method_25_code
def yJx4a65c_add_9ea2d : MethodName := ⟨RJx4a65c, "add", "(Ljava/lang/Object;)Z"⟩
def RJ7 : String := "java/util/Arrays"
def TJ7 : u_T := fun k => match k with
  | _ => ("", "", "", false)
def tyJ7 : Nat → FieldType := fun k => match k with
  | _ => .int
theorem nmJ7 : ∀ a, a < 0 → ∀ b, b < 0 → a ≠ b → (TJ7 a).2.1 ≠ (TJ7 b).2.1 := by decide +kernel
theorem tyJ7_ok : ∀ k, k < 0 → parseFieldDescriptor (TJ7 k).2.2.1 = some (tyJ7 k) := by decide +kernel
abbrev cJ7_fill_53178 : ByteArray := prog_24_method_103_code
def yJ7_fill_53178 : MethodName := ⟨RJ7, "fill", "([II)V"⟩
abbrev cJ7_copyOf_1904c : ByteArray := prog_24_method_119_code
def yJ7_copyOf_1904c : MethodName := ⟨RJ7, "copyOf", "([Ljava/lang/Object;I)[Ljava/lang/Object;"⟩
abbrev cJ7_copyOf_6403c : ByteArray := prog_24_method_120_code
def yJ7_copyOf_6403c : MethodName := ⟨RJ7, "copyOf", "([Ljava/lang/Object;ILjava/lang/Class;)[Ljava/lang/Object;"⟩
abbrev cJ7_copyOf_59c91 : ByteArray := prog_24_method_123_code
def yJ7_copyOf_59c91 : MethodName := ⟨RJ7, "copyOf", "([II)[I"⟩
def RJx5ef63 : String := "java/util/Collection"
def TJx5ef63 : u_T := fun k => match k with
  | _ => ("", "", "", false)
def tyJx5ef63 : Nat → FieldType := fun k => match k with
  | _ => .int
theorem nmJx5ef63 : ∀ a, a < 0 → ∀ b, b < 0 → a ≠ b → (TJx5ef63 a).2.1 ≠ (TJx5ef63 b).2.1 := by decide +kernel
theorem tyJx5ef63_ok : ∀ k, k < 0 → parseFieldDescriptor (TJx5ef63 k).2.2.1 = some (tyJx5ef63 k) := by decide +kernel
def RJxbd725 : String := "java/util/List"
def TJxbd725 : u_T := fun k => match k with
  | _ => ("", "", "", false)
def tyJxbd725 : Nat → FieldType := fun k => match k with
  | _ => .int
theorem nmJxbd725 : ∀ a, a < 0 → ∀ b, b < 0 → a ≠ b → (TJxbd725 a).2.1 ≠ (TJxbd725 b).2.1 := by decide +kernel
theorem tyJxbd725_ok : ∀ k, k < 0 → parseFieldDescriptor (TJxbd725 k).2.2.1 = some (tyJxbd725 k) := by decide +kernel
def RJ15 : String := "java/util/Objects"
def TJ15 : u_T := fun k => match k with
  | _ => ("", "", "", false)
def tyJ15 : Nat → FieldType := fun k => match k with
  | _ => .int
theorem nmJ15 : ∀ a, a < 0 → ∀ b, b < 0 → a ≠ b → (TJ15 a).2.1 ≠ (TJ15 b).2.1 := by decide +kernel
theorem tyJ15_ok : ∀ k, k < 0 → parseFieldDescriptor (TJ15 k).2.2.1 = some (tyJ15 k) := by decide +kernel
abbrev cJ15_checkIndex_7cf53 : ByteArray := prog_28_method_17_code
def yJ15_checkIndex_7cf53 : MethodName := ⟨RJ15, "checkIndex", "(II)I"⟩
def RJxf0a74 : String := "java/util/RandomAccess"
def TJxf0a74 : u_T := fun k => match k with
  | _ => ("", "", "", false)
def tyJxf0a74 : Nat → FieldType := fun k => match k with
  | _ => .int
theorem nmJxf0a74 : ∀ a, a < 0 → ∀ b, b < 0 → a ≠ b → (TJxf0a74 a).2.1 ≠ (TJxf0a74 b).2.1 := by decide +kernel
theorem tyJxf0a74_ok : ∀ k, k < 0 → parseFieldDescriptor (TJxf0a74 k).2.2.1 = some (tyJxf0a74 k) := by decide +kernel
def RJxa66e6 : String := "java/util/SequencedCollection"
def TJxa66e6 : u_T := fun k => match k with
  | _ => ("", "", "", false)
def tyJxa66e6 : Nat → FieldType := fun k => match k with
  | _ => .int
theorem nmJxa66e6 : ∀ a, a < 0 → ∀ b, b < 0 → a ≠ b → (TJxa66e6 a).2.1 ≠ (TJxa66e6 b).2.1 := by decide +kernel
theorem tyJxa66e6_ok : ∀ k, k < 0 → parseFieldDescriptor (TJxa66e6 k).2.2.1 = some (tyJxa66e6 k) := by decide +kernel
def RJ8 : String := "jdk/internal/util/ArraysSupport"
def TJ8 : u_T := fun k => match k with
  | _ => ("", "", "", false)
def tyJ8 : Nat → FieldType := fun k => match k with
  | _ => .int
theorem nmJ8 : ∀ a, a < 0 → ∀ b, b < 0 → a ≠ b → (TJ8 a).2.1 ≠ (TJ8 b).2.1 := by decide +kernel
theorem tyJ8_ok : ∀ k, k < 0 → parseFieldDescriptor (TJ8 k).2.2.1 = some (tyJ8 k) := by decide +kernel
abbrev cJ8_newLength_cabcc : ByteArray := prog_31_method_27_code
def yJ8_newLength_cabcc : MethodName := ⟨RJ8, "newLength", "(III)I"⟩
abbrev cJ8_hugeLength_7cf53 : ByteArray := prog_31_method_28_code
def yJ8_hugeLength_7cf53 : MethodName := ⟨RJ8, "hugeLength", "(II)I"⟩
def RJ3 : String := "jdk/internal/util/Preconditions"
def TJ3 : u_T := fun k => match k with
  | _ => ("", "", "", false)
def tyJ3 : Nat → FieldType := fun k => match k with
  | _ => .int
theorem nmJ3 : ∀ a, a < 0 → ∀ b, b < 0 → a ≠ b → (TJ3 a).2.1 ≠ (TJ3 b).2.1 := by decide +kernel
theorem tyJ3_ok : ∀ k, k < 0 → parseFieldDescriptor (TJ3 k).2.2.1 = some (tyJ3 k) := by decide +kernel
abbrev cJ3_checkIndex_8e157 : ByteArray := prog_32_method_11_code
def yJ3_checkIndex_8e157 : MethodName := ⟨RJ3, "checkIndex", "(IILjava/util/function/BiFunction;)I"⟩
def RL : String := "TrainDeskLaw"
abbrev cL_was : ByteArray := method_3_code
def yL_was : MethodName := ⟨RL, "was", "(LTrainDesk;IIZ[J)I"⟩
abbrev cL_law : ByteArray := code
def yL_law : MethodName := ⟨RL, "law", "([I)Z"⟩
end
section
theorem dX0_init_0 : decode cX0_init 0 = .ok (.aload_n 0, 1) := by decide +kernel
theorem dX0_init_1 : decode cX0_init 1 = .ok (.invokespecial 3, 3) := by decide +kernel
theorem dX0_init_4 : decode cX0_init 4 = .ok (.return_, 1) := by decide +kernel
theorem dX0_follow_0 : decode cX0_follow 0 = .ok (.aload_n 0, 1) := by decide +kernel
theorem dX0_follow_1 : decode cX0_follow 1 = .ok (.iconst 0, 1) := by decide +kernel
theorem dX0_follow_2 : decode cX0_follow 2 = .ok (.putfield 9, 3) := by decide +kernel
theorem dX0_follow_5 : decode cX0_follow 5 = .ok (.aload_n 0, 1) := by decide +kernel
theorem dX0_follow_6 : decode cX0_follow 6 = .ok (.aload_n 0, 1) := by decide +kernel
theorem dX0_follow_7 : decode cX0_follow 7 = .ok (.aload_n 1, 1) := by decide +kernel
theorem dX0_follow_8 : decode cX0_follow 8 = .ok (.iload_n 2, 1) := by decide +kernel
theorem dX0_follow_9 : decode cX0_follow 9 = .ok (.invokevirtual 15, 3) := by decide +kernel
theorem dX0_follow_12 : decode cX0_follow 12 = .ok (.ifCond .eq 7, 3) := by decide +kernel
theorem dX0_follow_15 : decode cX0_follow 15 = .ok (.iload_n 2, 1) := by decide +kernel
theorem dX0_follow_16 : decode cX0_follow 16 = .ok (.goto 4, 3) := by decide +kernel
theorem dX0_follow_19 : decode cX0_follow 19 = .ok (.iconst 0, 1) := by decide +kernel
theorem dX0_follow_20 : decode cX0_follow 20 = .ok (.putfield 19, 3) := by decide +kernel
theorem dX0_follow_23 : decode cX0_follow 23 = .ok (.iconst 2, 1) := by decide +kernel
theorem dX0_follow_24 : decode cX0_follow 24 = .ok (.istore_n 3, 1) := by decide +kernel
theorem dX0_follow_25 : decode cX0_follow 25 = .ok (.iconst 0, 1) := by decide +kernel
theorem dX0_follow_26 : decode cX0_follow 26 = .ok (.istore 4, 2) := by decide +kernel
theorem dX0_follow_28 : decode cX0_follow 28 = .ok (.iconst 0, 1) := by decide +kernel
theorem dX0_follow_29 : decode cX0_follow 29 = .ok (.istore 5, 2) := by decide +kernel
theorem dX0_follow_31 : decode cX0_follow 31 = .ok (.iload 5, 2) := by decide +kernel
theorem dX0_follow_33 : decode cX0_follow 33 = .ok (.sipush 1000, 3) := by decide +kernel
theorem dX0_follow_36 : decode cX0_follow 36 = .ok (.if_icmp .ge 87, 3) := by decide +kernel
theorem dX0_follow_39 : decode cX0_follow 39 = .ok (.iload 4, 2) := by decide +kernel
theorem dX0_follow_41 : decode cX0_follow 41 = .ok (.ifCond .ne 82, 3) := by decide +kernel
theorem dX0_follow_44 : decode cX0_follow 44 = .ok (.aload_n 0, 1) := by decide +kernel
theorem dX0_follow_45 : decode cX0_follow 45 = .ok (.getfield 19, 3) := by decide +kernel
theorem dX0_follow_48 : decode cX0_follow 48 = .ok (.invokestatic 22, 3) := by decide +kernel
theorem dX0_follow_51 : decode cX0_follow 51 = .ok (.iconst 1, 1) := by decide +kernel
theorem dX0_follow_52 : decode cX0_follow 52 = .ok (.if_icmp .le 71, 3) := by decide +kernel
theorem dX0_follow_55 : decode cX0_follow 55 = .ok (.aload_n 0, 1) := by decide +kernel
theorem dX0_follow_56 : decode cX0_follow 56 = .ok (.aload_n 1, 1) := by decide +kernel
theorem dX0_follow_57 : decode cX0_follow 57 = .ok (.iload_n 3, 1) := by decide +kernel
theorem dX0_follow_58 : decode cX0_follow 58 = .ok (.invokevirtual 28, 3) := by decide +kernel
theorem dX0_follow_61 : decode cX0_follow 61 = .ok (.istore 6, 2) := by decide +kernel
theorem dX0_follow_63 : decode cX0_follow 63 = .ok (.iload 6, 2) := by decide +kernel
theorem dX0_follow_65 : decode cX0_follow 65 = .ok (.iconst (-1), 1) := by decide +kernel
theorem dX0_follow_66 : decode cX0_follow 66 = .ok (.if_icmp .eq 20, 3) := by decide +kernel
theorem dX0_follow_69 : decode cX0_follow 69 = .ok (.aload_n 0, 1) := by decide +kernel
theorem dX0_follow_70 : decode cX0_follow 70 = .ok (.iload 6, 2) := by decide +kernel
theorem dX0_follow_72 : decode cX0_follow 72 = .ok (.putfield 19, 3) := by decide +kernel
theorem dX0_follow_75 : decode cX0_follow 75 = .ok (.iload_n 3, 1) := by decide +kernel
theorem dX0_follow_76 : decode cX0_follow 76 = .ok (.iconst 1, 1) := by decide +kernel
theorem dX0_follow_77 : decode cX0_follow 77 = .ok (.isub, 1) := by decide +kernel
theorem dX0_follow_78 : decode cX0_follow 78 = .ok (.iconst 2, 1) := by decide +kernel
theorem dX0_follow_79 : decode cX0_follow 79 = .ok (.invokestatic 32, 3) := by decide +kernel
theorem dX0_follow_82 : decode cX0_follow 82 = .ok (.istore_n 3, 1) := by decide +kernel
theorem dX0_follow_83 : decode cX0_follow 83 = .ok (.goto 34, 3) := by decide +kernel
theorem dX0_follow_86 : decode cX0_follow 86 = .ok (.aload_n 0, 1) := by decide +kernel
theorem dX0_follow_87 : decode cX0_follow 87 = .ok (.getfield 19, 3) := by decide +kernel
theorem dX0_follow_90 : decode cX0_follow 90 = .ok (.invokestatic 22, 3) := by decide +kernel
theorem dX0_follow_93 : decode cX0_follow 93 = .ok (.istore 7, 2) := by decide +kernel
theorem dX0_follow_95 : decode cX0_follow 95 = .ok (.iload_n 3, 1) := by decide +kernel
theorem dX0_follow_96 : decode cX0_follow 96 = .ok (.iload 7, 2) := by decide +kernel
theorem dX0_follow_98 : decode cX0_follow 98 = .ok (.if_icmp .lt 7, 3) := by decide +kernel
theorem dX0_follow_101 : decode cX0_follow 101 = .ok (.iconst 1, 1) := by decide +kernel
theorem dX0_follow_102 : decode cX0_follow 102 = .ok (.goto 4, 3) := by decide +kernel
theorem dX0_follow_105 : decode cX0_follow 105 = .ok (.iconst 0, 1) := by decide +kernel
theorem dX0_follow_106 : decode cX0_follow 106 = .ok (.istore 4, 2) := by decide +kernel
theorem dX0_follow_108 : decode cX0_follow 108 = .ok (.iload_n 3, 1) := by decide +kernel
theorem dX0_follow_109 : decode cX0_follow 109 = .ok (.iconst 2, 1) := by decide +kernel
theorem dX0_follow_110 : decode cX0_follow 110 = .ok (.imul, 1) := by decide +kernel
theorem dX0_follow_111 : decode cX0_follow 111 = .ok (.iload 7, 2) := by decide +kernel
theorem dX0_follow_113 : decode cX0_follow 113 = .ok (.invokestatic 38, 3) := by decide +kernel
theorem dX0_follow_116 : decode cX0_follow 116 = .ok (.istore_n 3, 1) := by decide +kernel
theorem dX0_follow_117 : decode cX0_follow 117 = .ok (.iinc 5 1, 3) := by decide +kernel
theorem dX0_follow_120 : decode cX0_follow 120 = .ok (.goto (-89), 3) := by decide +kernel
theorem dX0_follow_123 : decode cX0_follow 123 = .ok (.return_, 1) := by decide +kernel
theorem dX0_isRed_0 : decode cX0_isRed 0 = .ok (.aload_n 0, 1) := by decide +kernel
theorem dX0_isRed_1 : decode cX0_isRed 1 = .ok (.dup, 1) := by decide +kernel
theorem dX0_isRed_2 : decode cX0_isRed 2 = .ok (.getfield 9, 3) := by decide +kernel
theorem dX0_isRed_5 : decode cX0_isRed 5 = .ok (.iconst 1, 1) := by decide +kernel
theorem dX0_isRed_6 : decode cX0_isRed 6 = .ok (.iadd, 1) := by decide +kernel
theorem dX0_isRed_7 : decode cX0_isRed 7 = .ok (.putfield 9, 3) := by decide +kernel
theorem dX0_isRed_10 : decode cX0_isRed 10 = .ok (.aload_n 1, 1) := by decide +kernel
theorem dX0_isRed_11 : decode cX0_isRed 11 = .ok (.iload_n 2, 1) := by decide +kernel
theorem dX0_isRed_12 : decode cX0_isRed 12 = .ok (.invokevirtual 41, 3) := by decide +kernel
theorem dX0_isRed_15 : decode cX0_isRed 15 = .ok (.iconst (-1), 1) := by decide +kernel
theorem dX0_isRed_16 : decode cX0_isRed 16 = .ok (.if_icmp .eq 7, 3) := by decide +kernel
theorem dX0_isRed_19 : decode cX0_isRed 19 = .ok (.iconst 1, 1) := by decide +kernel
theorem dX0_isRed_20 : decode cX0_isRed 20 = .ok (.goto 4, 3) := by decide +kernel
theorem dX0_isRed_23 : decode cX0_isRed 23 = .ok (.iconst 0, 1) := by decide +kernel
theorem dX0_isRed_24 : decode cX0_isRed 24 = .ok (.ireturn, 1) := by decide +kernel
theorem dX0_withoutPiece_0 : decode cX0_withoutPiece 0 = .ok (.iload_n 2, 1) := by decide +kernel
theorem dX0_withoutPiece_1 : decode cX0_withoutPiece 1 = .ok (.iconst 1, 1) := by decide +kernel
theorem dX0_withoutPiece_2 : decode cX0_withoutPiece 2 = .ok (.if_icmp .ge 5, 3) := by decide +kernel
theorem dX0_withoutPiece_5 : decode cX0_withoutPiece 5 = .ok (.iconst (-1), 1) := by decide +kernel
theorem dX0_withoutPiece_6 : decode cX0_withoutPiece 6 = .ok (.ireturn, 1) := by decide +kernel
theorem dX0_withoutPiece_7 : decode cX0_withoutPiece 7 = .ok (.aload_n 0, 1) := by decide +kernel
theorem dX0_withoutPiece_8 : decode cX0_withoutPiece 8 = .ok (.getfield 19, 3) := by decide +kernel
theorem dX0_withoutPiece_11 : decode cX0_withoutPiece 11 = .ok (.invokestatic 22, 3) := by decide +kernel
theorem dX0_withoutPiece_14 : decode cX0_withoutPiece 14 = .ok (.istore_n 3, 1) := by decide +kernel
theorem dX0_withoutPiece_15 : decode cX0_withoutPiece 15 = .ok (.iload_n 3, 1) := by decide +kernel
theorem dX0_withoutPiece_16 : decode cX0_withoutPiece 16 = .ok (.iload_n 2, 1) := by decide +kernel
theorem dX0_withoutPiece_17 : decode cX0_withoutPiece 17 = .ok (.irem, 1) := by decide +kernel
theorem dX0_withoutPiece_18 : decode cX0_withoutPiece 18 = .ok (.istore 4, 2) := by decide +kernel
theorem dX0_withoutPiece_20 : decode cX0_withoutPiece 20 = .ok (.aload_n 0, 1) := by decide +kernel
theorem dX0_withoutPiece_21 : decode cX0_withoutPiece 21 = .ok (.getfield 19, 3) := by decide +kernel
theorem dX0_withoutPiece_24 : decode cX0_withoutPiece 24 = .ok (.istore 5, 2) := by decide +kernel
theorem dX0_withoutPiece_26 : decode cX0_withoutPiece 26 = .ok (.iconst 0, 1) := by decide +kernel
theorem dX0_withoutPiece_27 : decode cX0_withoutPiece 27 = .ok (.istore 6, 2) := by decide +kernel
theorem dX0_withoutPiece_29 : decode cX0_withoutPiece 29 = .ok (.iload 6, 2) := by decide +kernel
theorem dX0_withoutPiece_31 : decode cX0_withoutPiece 31 = .ok (.iload_n 2, 1) := by decide +kernel
theorem dX0_withoutPiece_32 : decode cX0_withoutPiece 32 = .ok (.if_icmp .ge 72, 3) := by decide +kernel
theorem dX0_withoutPiece_35 : decode cX0_withoutPiece 35 = .ok (.iload 5, 2) := by decide +kernel
theorem dX0_withoutPiece_37 : decode cX0_withoutPiece 37 = .ok (.iload_n 3, 1) := by decide +kernel
theorem dX0_withoutPiece_38 : decode cX0_withoutPiece 38 = .ok (.iload_n 2, 1) := by decide +kernel
theorem dX0_withoutPiece_39 : decode cX0_withoutPiece 39 = .ok (.idiv, 1) := by decide +kernel
theorem dX0_withoutPiece_40 : decode cX0_withoutPiece 40 = .ok (.iload 6, 2) := by decide +kernel
theorem dX0_withoutPiece_42 : decode cX0_withoutPiece 42 = .ok (.iload 4, 2) := by decide +kernel
theorem dX0_withoutPiece_44 : decode cX0_withoutPiece 44 = .ok (.if_icmp .ge 7, 3) := by decide +kernel
theorem dX0_withoutPiece_47 : decode cX0_withoutPiece 47 = .ok (.iconst 1, 1) := by decide +kernel
theorem dX0_withoutPiece_48 : decode cX0_withoutPiece 48 = .ok (.goto 4, 3) := by decide +kernel
theorem dX0_withoutPiece_51 : decode cX0_withoutPiece 51 = .ok (.iconst 0, 1) := by decide +kernel
theorem dX0_withoutPiece_52 : decode cX0_withoutPiece 52 = .ok (.iadd, 1) := by decide +kernel
theorem dX0_withoutPiece_53 : decode cX0_withoutPiece 53 = .ok (.invokestatic 46, 3) := by decide +kernel
theorem dX0_withoutPiece_56 : decode cX0_withoutPiece 56 = .ok (.istore 7, 2) := by decide +kernel
theorem dX0_withoutPiece_58 : decode cX0_withoutPiece 58 = .ok (.iload 5, 2) := by decide +kernel
theorem dX0_withoutPiece_60 : decode cX0_withoutPiece 60 = .ok (.iload 7, 2) := by decide +kernel
theorem dX0_withoutPiece_62 : decode cX0_withoutPiece 62 = .ok (.iconst (-1), 1) := by decide +kernel
theorem dX0_withoutPiece_63 : decode cX0_withoutPiece 63 = .ok (.ixor, 1) := by decide +kernel
theorem dX0_withoutPiece_64 : decode cX0_withoutPiece 64 = .ok (.iand, 1) := by decide +kernel
theorem dX0_withoutPiece_65 : decode cX0_withoutPiece 65 = .ok (.istore 8, 2) := by decide +kernel
theorem dX0_withoutPiece_67 : decode cX0_withoutPiece 67 = .ok (.aload_n 0, 1) := by decide +kernel
theorem dX0_withoutPiece_68 : decode cX0_withoutPiece 68 = .ok (.aload_n 1, 1) := by decide +kernel
theorem dX0_withoutPiece_69 : decode cX0_withoutPiece 69 = .ok (.aload_n 0, 1) := by decide +kernel
theorem dX0_withoutPiece_70 : decode cX0_withoutPiece 70 = .ok (.getfield 19, 3) := by decide +kernel
theorem dX0_withoutPiece_73 : decode cX0_withoutPiece 73 = .ok (.iload 8, 2) := by decide +kernel
theorem dX0_withoutPiece_75 : decode cX0_withoutPiece 75 = .ok (.iconst (-1), 1) := by decide +kernel
theorem dX0_withoutPiece_76 : decode cX0_withoutPiece 76 = .ok (.ixor, 1) := by decide +kernel
theorem dX0_withoutPiece_77 : decode cX0_withoutPiece 77 = .ok (.iand, 1) := by decide +kernel
theorem dX0_withoutPiece_78 : decode cX0_withoutPiece 78 = .ok (.invokevirtual 15, 3) := by decide +kernel
theorem dX0_withoutPiece_81 : decode cX0_withoutPiece 81 = .ok (.ifCond .eq 13, 3) := by decide +kernel
theorem dX0_withoutPiece_84 : decode cX0_withoutPiece 84 = .ok (.aload_n 0, 1) := by decide +kernel
theorem dX0_withoutPiece_85 : decode cX0_withoutPiece 85 = .ok (.getfield 19, 3) := by decide +kernel
theorem dX0_withoutPiece_88 : decode cX0_withoutPiece 88 = .ok (.iload 8, 2) := by decide +kernel
theorem dX0_withoutPiece_90 : decode cX0_withoutPiece 90 = .ok (.iconst (-1), 1) := by decide +kernel
theorem dX0_withoutPiece_91 : decode cX0_withoutPiece 91 = .ok (.ixor, 1) := by decide +kernel
theorem dX0_withoutPiece_92 : decode cX0_withoutPiece 92 = .ok (.iand, 1) := by decide +kernel
theorem dX0_withoutPiece_93 : decode cX0_withoutPiece 93 = .ok (.ireturn, 1) := by decide +kernel
theorem dX0_withoutPiece_94 : decode cX0_withoutPiece 94 = .ok (.iload 7, 2) := by decide +kernel
theorem dX0_withoutPiece_96 : decode cX0_withoutPiece 96 = .ok (.istore 5, 2) := by decide +kernel
theorem dX0_withoutPiece_98 : decode cX0_withoutPiece 98 = .ok (.iinc 6 1, 3) := by decide +kernel
theorem dX0_withoutPiece_101 : decode cX0_withoutPiece 101 = .ok (.goto (-72), 3) := by decide +kernel
theorem dX0_withoutPiece_104 : decode cX0_withoutPiece 104 = .ok (.iconst (-1), 1) := by decide +kernel
theorem dX0_withoutPiece_105 : decode cX0_withoutPiece 105 = .ok (.ireturn, 1) := by decide +kernel
theorem dX0_withoutLowest_0 : decode cX0_withoutLowest 0 = .ok (.iload_n 0, 1) := by decide +kernel
theorem dX0_withoutLowest_1 : decode cX0_withoutLowest 1 = .ok (.istore_n 2, 1) := by decide +kernel
theorem dX0_withoutLowest_2 : decode cX0_withoutLowest 2 = .ok (.iconst 0, 1) := by decide +kernel
theorem dX0_withoutLowest_3 : decode cX0_withoutLowest 3 = .ok (.istore_n 3, 1) := by decide +kernel
theorem dX0_withoutLowest_4 : decode cX0_withoutLowest 4 = .ok (.iload_n 3, 1) := by decide +kernel
theorem dX0_withoutLowest_5 : decode cX0_withoutLowest 5 = .ok (.iload_n 1, 1) := by decide +kernel
theorem dX0_withoutLowest_6 : decode cX0_withoutLowest 6 = .ok (.if_icmp .ge 18, 3) := by decide +kernel
theorem dX0_withoutLowest_9 : decode cX0_withoutLowest 9 = .ok (.iload_n 2, 1) := by decide +kernel
theorem dX0_withoutLowest_10 : decode cX0_withoutLowest 10 = .ok (.iload_n 2, 1) := by decide +kernel
theorem dX0_withoutLowest_11 : decode cX0_withoutLowest 11 = .ok (.invokestatic 49, 3) := by decide +kernel
theorem dX0_withoutLowest_14 : decode cX0_withoutLowest 14 = .ok (.iconst (-1), 1) := by decide +kernel
theorem dX0_withoutLowest_15 : decode cX0_withoutLowest 15 = .ok (.ixor, 1) := by decide +kernel
theorem dX0_withoutLowest_16 : decode cX0_withoutLowest 16 = .ok (.iand, 1) := by decide +kernel
theorem dX0_withoutLowest_17 : decode cX0_withoutLowest 17 = .ok (.istore_n 2, 1) := by decide +kernel
theorem dX0_withoutLowest_18 : decode cX0_withoutLowest 18 = .ok (.iinc 3 1, 3) := by decide +kernel
theorem dX0_withoutLowest_21 : decode cX0_withoutLowest 21 = .ok (.goto (-17), 3) := by decide +kernel
theorem dX0_withoutLowest_24 : decode cX0_withoutLowest 24 = .ok (.iload_n 2, 1) := by decide +kernel
theorem dX0_withoutLowest_25 : decode cX0_withoutLowest 25 = .ok (.ireturn, 1) := by decide +kernel
theorem dX1_init_0 : decode cX1_init 0 = .ok (.aload_n 0, 1) := by decide +kernel
theorem dX1_init_1 : decode cX1_init 1 = .ok (.invokespecial 3, 3) := by decide +kernel
theorem dX1_init_4 : decode cX1_init 4 = .ok (.aload_n 0, 1) := by decide +kernel
theorem dX1_init_5 : decode cX1_init 5 = .ok (.bipush 30, 2) := by decide +kernel
theorem dX1_init_7 : decode cX1_init 7 = .ok (.newarray .int, 2) := by decide +kernel
theorem dX1_init_9 : decode cX1_init 9 = .ok (.putfield 9, 3) := by decide +kernel
theorem dX1_init_12 : decode cX1_init 12 = .ok (.aload_n 0, 1) := by decide +kernel
theorem dX1_init_13 : decode cX1_init 13 = .ok (.bipush 30, 2) := by decide +kernel
theorem dX1_init_15 : decode cX1_init 15 = .ok (.newarray .int, 2) := by decide +kernel
theorem dX1_init_17 : decode cX1_init 17 = .ok (.putfield 15, 3) := by decide +kernel
theorem dX1_init_20 : decode cX1_init 20 = .ok (.aload_n 0, 1) := by decide +kernel
theorem dX1_init_21 : decode cX1_init 21 = .ok (.bipush 30, 2) := by decide +kernel
theorem dX1_init_23 : decode cX1_init 23 = .ok (.newarray .int, 2) := by decide +kernel
theorem dX1_init_25 : decode cX1_init 25 = .ok (.putfield 18, 3) := by decide +kernel
theorem dX1_init_28 : decode cX1_init 28 = .ok (.aload_n 0, 1) := by decide +kernel
theorem dX1_init_29 : decode cX1_init 29 = .ok (.bipush 30, 2) := by decide +kernel
theorem dX1_init_31 : decode cX1_init 31 = .ok (.newarray .int, 2) := by decide +kernel
theorem dX1_init_33 : decode cX1_init 33 = .ok (.putfield 21, 3) := by decide +kernel
theorem dX1_init_36 : decode cX1_init 36 = .ok (.aload_n 0, 1) := by decide +kernel
theorem dX1_init_37 : decode cX1_init 37 = .ok (.bipush 30, 2) := by decide +kernel
theorem dX1_init_39 : decode cX1_init 39 = .ok (.newarray .int, 2) := by decide +kernel
theorem dX1_init_41 : decode cX1_init 41 = .ok (.putfield 24, 3) := by decide +kernel
theorem dX1_init_44 : decode cX1_init 44 = .ok (.aload_n 0, 1) := by decide +kernel
theorem dX1_init_45 : decode cX1_init 45 = .ok (.bipush 30, 2) := by decide +kernel
theorem dX1_init_47 : decode cX1_init 47 = .ok (.newarray .int, 2) := by decide +kernel
theorem dX1_init_49 : decode cX1_init 49 = .ok (.putfield 27, 3) := by decide +kernel
theorem dX1_init_52 : decode cX1_init 52 = .ok (.aload_n 0, 1) := by decide +kernel
theorem dX1_init_53 : decode cX1_init 53 = .ok (.bipush 30, 2) := by decide +kernel
theorem dX1_init_55 : decode cX1_init 55 = .ok (.newarray .int, 2) := by decide +kernel
theorem dX1_init_57 : decode cX1_init 57 = .ok (.putfield 30, 3) := by decide +kernel
theorem dX1_init_60 : decode cX1_init 60 = .ok (.aload_n 0, 1) := by decide +kernel
theorem dX1_init_61 : decode cX1_init 61 = .ok (.iconst 0, 1) := by decide +kernel
theorem dX1_init_62 : decode cX1_init 62 = .ok (.putfield 33, 3) := by decide +kernel
theorem dX1_init_65 : decode cX1_init 65 = .ok (.return_, 1) := by decide +kernel
theorem dX1_add_0 : decode cX1_add 0 = .ok (.aload_n 0, 1) := by decide +kernel
theorem dX1_add_1 : decode cX1_add 1 = .ok (.getfield 33, 3) := by decide +kernel
theorem dX1_add_4 : decode cX1_add 4 = .ok (.bipush 30, 2) := by decide +kernel
theorem dX1_add_6 : decode cX1_add 6 = .ok (.if_icmp .lt 5, 3) := by decide +kernel
theorem dX1_add_9 : decode cX1_add 9 = .ok (.iconst (-1), 1) := by decide +kernel
theorem dX1_add_10 : decode cX1_add 10 = .ok (.ireturn, 1) := by decide +kernel
theorem dX1_add_11 : decode cX1_add 11 = .ok (.aload_n 0, 1) := by decide +kernel
theorem dX1_add_12 : decode cX1_add 12 = .ok (.getfield 9, 3) := by decide +kernel
theorem dX1_add_15 : decode cX1_add 15 = .ok (.aload_n 0, 1) := by decide +kernel
theorem dX1_add_16 : decode cX1_add 16 = .ok (.getfield 33, 3) := by decide +kernel
theorem dX1_add_19 : decode cX1_add 19 = .ok (.iload_n 1, 1) := by decide +kernel
theorem dX1_add_20 : decode cX1_add 20 = .ok (.iastore, 1) := by decide +kernel
theorem dX1_add_21 : decode cX1_add 21 = .ok (.aload_n 0, 1) := by decide +kernel
theorem dX1_add_22 : decode cX1_add 22 = .ok (.getfield 15, 3) := by decide +kernel
theorem dX1_add_25 : decode cX1_add 25 = .ok (.aload_n 0, 1) := by decide +kernel
theorem dX1_add_26 : decode cX1_add 26 = .ok (.getfield 33, 3) := by decide +kernel
theorem dX1_add_29 : decode cX1_add 29 = .ok (.iload_n 2, 1) := by decide +kernel
theorem dX1_add_30 : decode cX1_add 30 = .ok (.iastore, 1) := by decide +kernel
theorem dX1_add_31 : decode cX1_add 31 = .ok (.aload_n 0, 1) := by decide +kernel
theorem dX1_add_32 : decode cX1_add 32 = .ok (.getfield 18, 3) := by decide +kernel
theorem dX1_add_35 : decode cX1_add 35 = .ok (.aload_n 0, 1) := by decide +kernel
theorem dX1_add_36 : decode cX1_add 36 = .ok (.getfield 33, 3) := by decide +kernel
theorem dX1_add_39 : decode cX1_add 39 = .ok (.iload_n 3, 1) := by decide +kernel
theorem dX1_add_40 : decode cX1_add 40 = .ok (.iastore, 1) := by decide +kernel
theorem dX1_add_41 : decode cX1_add 41 = .ok (.aload_n 0, 1) := by decide +kernel
theorem dX1_add_42 : decode cX1_add 42 = .ok (.getfield 21, 3) := by decide +kernel
theorem dX1_add_45 : decode cX1_add 45 = .ok (.aload_n 0, 1) := by decide +kernel
theorem dX1_add_46 : decode cX1_add 46 = .ok (.getfield 33, 3) := by decide +kernel
theorem dX1_add_49 : decode cX1_add 49 = .ok (.iload 4, 2) := by decide +kernel
theorem dX1_add_51 : decode cX1_add 51 = .ok (.iastore, 1) := by decide +kernel
theorem dX1_add_52 : decode cX1_add 52 = .ok (.aload_n 0, 1) := by decide +kernel
theorem dX1_add_53 : decode cX1_add 53 = .ok (.getfield 24, 3) := by decide +kernel
theorem dX1_add_56 : decode cX1_add 56 = .ok (.aload_n 0, 1) := by decide +kernel
theorem dX1_add_57 : decode cX1_add 57 = .ok (.getfield 33, 3) := by decide +kernel
theorem dX1_add_60 : decode cX1_add 60 = .ok (.iload 5, 2) := by decide +kernel
theorem dX1_add_62 : decode cX1_add 62 = .ok (.iastore, 1) := by decide +kernel
theorem dX1_add_63 : decode cX1_add 63 = .ok (.aload_n 0, 1) := by decide +kernel
theorem dX1_add_64 : decode cX1_add 64 = .ok (.dup, 1) := by decide +kernel
theorem dX1_add_65 : decode cX1_add 65 = .ok (.getfield 33, 3) := by decide +kernel
theorem dX1_add_68 : decode cX1_add 68 = .ok (.iconst 1, 1) := by decide +kernel
theorem dX1_add_69 : decode cX1_add 69 = .ok (.iadd, 1) := by decide +kernel
theorem dX1_add_70 : decode cX1_add 70 = .ok (.putfield 33, 3) := by decide +kernel
theorem dX1_add_73 : decode cX1_add 73 = .ok (.aload_n 0, 1) := by decide +kernel
theorem dX1_add_74 : decode cX1_add 74 = .ok (.getfield 33, 3) := by decide +kernel
theorem dX1_add_77 : decode cX1_add 77 = .ok (.iconst 1, 1) := by decide +kernel
theorem dX1_add_78 : decode cX1_add 78 = .ok (.isub, 1) := by decide +kernel
theorem dX1_add_79 : decode cX1_add 79 = .ok (.ireturn, 1) := by decide +kernel
theorem dX1_weigh_0 : decode cX1_weigh 0 = .ok (.iconst 0, 1) := by decide +kernel
theorem dX1_weigh_1 : decode cX1_weigh 1 = .ok (.istore_n 3, 1) := by decide +kernel
theorem dX1_weigh_2 : decode cX1_weigh 2 = .ok (.iload_n 3, 1) := by decide +kernel
theorem dX1_weigh_3 : decode cX1_weigh 3 = .ok (.aload_n 0, 1) := by decide +kernel
theorem dX1_weigh_4 : decode cX1_weigh 4 = .ok (.getfield 33, 3) := by decide +kernel
theorem dX1_weigh_7 : decode cX1_weigh 7 = .ok (.if_icmp .ge 16, 3) := by decide +kernel
theorem dX1_weigh_10 : decode cX1_weigh 10 = .ok (.aload_n 0, 1) := by decide +kernel
theorem dX1_weigh_11 : decode cX1_weigh 11 = .ok (.iload_n 3, 1) := by decide +kernel
theorem dX1_weigh_12 : decode cX1_weigh 12 = .ok (.aload_n 1, 1) := by decide +kernel
theorem dX1_weigh_13 : decode cX1_weigh 13 = .ok (.aload_n 2, 1) := by decide +kernel
theorem dX1_weigh_14 : decode cX1_weigh 14 = .ok (.invokevirtual 37, 3) := by decide +kernel
theorem dX1_weigh_17 : decode cX1_weigh 17 = .ok (.iinc 3 1, 3) := by decide +kernel
theorem dX1_weigh_20 : decode cX1_weigh 20 = .ok (.goto (-18), 3) := by decide +kernel
theorem dX1_weigh_23 : decode cX1_weigh 23 = .ok (.return_, 1) := by decide +kernel
theorem dX1_weighOne_0 : decode cX1_weighOne 0 = .ok (.aload_n 0, 1) := by decide +kernel
theorem dX1_weighOne_1 : decode cX1_weighOne 1 = .ok (.getfield 9, 3) := by decide +kernel
theorem dX1_weighOne_4 : decode cX1_weighOne 4 = .ok (.iload_n 1, 1) := by decide +kernel
theorem dX1_weighOne_5 : decode cX1_weighOne 5 = .ok (.iaload, 1) := by decide +kernel
theorem dX1_weighOne_6 : decode cX1_weighOne 6 = .ok (.istore 4, 2) := by decide +kernel
theorem dX1_weighOne_8 : decode cX1_weighOne 8 = .ok (.aload_n 0, 1) := by decide +kernel
theorem dX1_weighOne_9 : decode cX1_weighOne 9 = .ok (.getfield 18, 3) := by decide +kernel
theorem dX1_weighOne_12 : decode cX1_weighOne 12 = .ok (.iload_n 1, 1) := by decide +kernel
theorem dX1_weighOne_13 : decode cX1_weighOne 13 = .ok (.iaload, 1) := by decide +kernel
theorem dX1_weighOne_14 : decode cX1_weighOne 14 = .ok (.istore 5, 2) := by decide +kernel
theorem dX1_weighOne_16 : decode cX1_weighOne 16 = .ok (.aload_n 2, 1) := by decide +kernel
theorem dX1_weighOne_17 : decode cX1_weighOne 17 = .ok (.iload 4, 2) := by decide +kernel
theorem dX1_weighOne_19 : decode cX1_weighOne 19 = .ok (.iaload, 1) := by decide +kernel
theorem dX1_weighOne_20 : decode cX1_weighOne 20 = .ok (.aload_n 0, 1) := by decide +kernel
theorem dX1_weighOne_21 : decode cX1_weighOne 21 = .ok (.getfield 15, 3) := by decide +kernel
theorem dX1_weighOne_24 : decode cX1_weighOne 24 = .ok (.iload_n 1, 1) := by decide +kernel
theorem dX1_weighOne_25 : decode cX1_weighOne 25 = .ok (.iaload, 1) := by decide +kernel
theorem dX1_weighOne_26 : decode cX1_weighOne 26 = .ok (.if_icmp .ne 7, 3) := by decide +kernel
theorem dX1_weighOne_29 : decode cX1_weighOne 29 = .ok (.iconst 1, 1) := by decide +kernel
theorem dX1_weighOne_30 : decode cX1_weighOne 30 = .ok (.goto 4, 3) := by decide +kernel
theorem dX1_weighOne_33 : decode cX1_weighOne 33 = .ok (.iconst 0, 1) := by decide +kernel
theorem dX1_weighOne_34 : decode cX1_weighOne 34 = .ok (.istore 6, 2) := by decide +kernel
theorem dX1_weighOne_36 : decode cX1_weighOne 36 = .ok (.aload_n 3, 1) := by decide +kernel
theorem dX1_weighOne_37 : decode cX1_weighOne 37 = .ok (.iload 4, 2) := by decide +kernel
theorem dX1_weighOne_39 : decode cX1_weighOne 39 = .ok (.invokevirtual 41, 3) := by decide +kernel
theorem dX1_weighOne_42 : decode cX1_weighOne 42 = .ok (.ifCond .eq 26, 3) := by decide +kernel
theorem dX1_weighOne_45 : decode cX1_weighOne 45 = .ok (.aload_n 3, 1) := by decide +kernel
theorem dX1_weighOne_46 : decode cX1_weighOne 46 = .ok (.iload 4, 2) := by decide +kernel
theorem dX1_weighOne_48 : decode cX1_weighOne 48 = .ok (.invokevirtual 47, 3) := by decide +kernel
theorem dX1_weighOne_51 : decode cX1_weighOne 51 = .ok (.aload_n 0, 1) := by decide +kernel
theorem dX1_weighOne_52 : decode cX1_weighOne 52 = .ok (.getfield 15, 3) := by decide +kernel
theorem dX1_weighOne_55 : decode cX1_weighOne 55 = .ok (.iload_n 1, 1) := by decide +kernel
theorem dX1_weighOne_56 : decode cX1_weighOne 56 = .ok (.iaload, 1) := by decide +kernel
theorem dX1_weighOne_57 : decode cX1_weighOne 57 = .ok (.if_icmp .ne 7, 3) := by decide +kernel
theorem dX1_weighOne_60 : decode cX1_weighOne 60 = .ok (.iconst 1, 1) := by decide +kernel
theorem dX1_weighOne_61 : decode cX1_weighOne 61 = .ok (.goto 9, 3) := by decide +kernel
theorem dX1_weighOne_64 : decode cX1_weighOne 64 = .ok (.iconst 0, 1) := by decide +kernel
theorem dX1_weighOne_65 : decode cX1_weighOne 65 = .ok (.goto 5, 3) := by decide +kernel
theorem dX1_weighOne_68 : decode cX1_weighOne 68 = .ok (.iload 6, 2) := by decide +kernel
theorem dX1_weighOne_70 : decode cX1_weighOne 70 = .ok (.istore 7, 2) := by decide +kernel
theorem dX1_weighOne_72 : decode cX1_weighOne 72 = .ok (.aload_n 0, 1) := by decide +kernel
theorem dX1_weighOne_73 : decode cX1_weighOne 73 = .ok (.iload_n 1, 1) := by decide +kernel
theorem dX1_weighOne_74 : decode cX1_weighOne 74 = .ok (.aload_n 2, 1) := by decide +kernel
theorem dX1_weighOne_75 : decode cX1_weighOne 75 = .ok (.iload 5, 2) := by decide +kernel
theorem dX1_weighOne_77 : decode cX1_weighOne 77 = .ok (.iaload, 1) := by decide +kernel
theorem dX1_weighOne_78 : decode cX1_weighOne 78 = .ok (.invokevirtual 51, 3) := by decide +kernel
theorem dX1_weighOne_81 : decode cX1_weighOne 81 = .ok (.istore 8, 2) := by decide +kernel
theorem dX1_weighOne_83 : decode cX1_weighOne 83 = .ok (.aload_n 3, 1) := by decide +kernel
theorem dX1_weighOne_84 : decode cX1_weighOne 84 = .ok (.iload 5, 2) := by decide +kernel
theorem dX1_weighOne_86 : decode cX1_weighOne 86 = .ok (.invokevirtual 41, 3) := by decide +kernel
theorem dX1_weighOne_89 : decode cX1_weighOne 89 = .ok (.ifCond .eq 17, 3) := by decide +kernel
theorem dX1_weighOne_92 : decode cX1_weighOne 92 = .ok (.aload_n 0, 1) := by decide +kernel
theorem dX1_weighOne_93 : decode cX1_weighOne 93 = .ok (.iload_n 1, 1) := by decide +kernel
theorem dX1_weighOne_94 : decode cX1_weighOne 94 = .ok (.aload_n 3, 1) := by decide +kernel
theorem dX1_weighOne_95 : decode cX1_weighOne 95 = .ok (.iload 5, 2) := by decide +kernel
theorem dX1_weighOne_97 : decode cX1_weighOne 97 = .ok (.invokevirtual 47, 3) := by decide +kernel
theorem dX1_weighOne_100 : decode cX1_weighOne 100 = .ok (.invokevirtual 51, 3) := by decide +kernel
theorem dX1_weighOne_103 : decode cX1_weighOne 103 = .ok (.goto 5, 3) := by decide +kernel
theorem dX1_weighOne_106 : decode cX1_weighOne 106 = .ok (.iload 8, 2) := by decide +kernel
theorem dX1_weighOne_108 : decode cX1_weighOne 108 = .ok (.istore 9, 2) := by decide +kernel
theorem dX1_weighOne_110 : decode cX1_weighOne 110 = .ok (.iload 6, 2) := by decide +kernel
theorem dX1_weighOne_112 : decode cX1_weighOne 112 = .ok (.ifCond .ne 8, 3) := by decide +kernel
theorem dX1_weighOne_115 : decode cX1_weighOne 115 = .ok (.iload 7, 2) := by decide +kernel
theorem dX1_weighOne_117 : decode cX1_weighOne 117 = .ok (.ifCond .eq 13, 3) := by decide +kernel
theorem dX1_weighOne_120 : decode cX1_weighOne 120 = .ok (.iload 8, 2) := by decide +kernel
theorem dX1_weighOne_122 : decode cX1_weighOne 122 = .ok (.ifCond .eq 14, 3) := by decide +kernel
theorem dX1_weighOne_125 : decode cX1_weighOne 125 = .ok (.iload 9, 2) := by decide +kernel
theorem dX1_weighOne_127 : decode cX1_weighOne 127 = .ok (.ifCond .eq 9, 3) := by decide +kernel
theorem dX1_weighOne_130 : decode cX1_weighOne 130 = .ok (.aload_n 0, 1) := by decide +kernel
theorem dX1_weighOne_131 : decode cX1_weighOne 131 = .ok (.iload_n 1, 1) := by decide +kernel
theorem dX1_weighOne_132 : decode cX1_weighOne 132 = .ok (.invokevirtual 55, 3) := by decide +kernel
theorem dX1_weighOne_135 : decode cX1_weighOne 135 = .ok (.return_, 1) := by decide +kernel
theorem dX1_weighOne_136 : decode cX1_weighOne 136 = .ok (.aload_n 0, 1) := by decide +kernel
theorem dX1_weighOne_137 : decode cX1_weighOne 137 = .ok (.getfield 27, 3) := by decide +kernel
theorem dX1_weighOne_140 : decode cX1_weighOne 140 = .ok (.iload_n 1, 1) := by decide +kernel
theorem dX1_weighOne_141 : decode cX1_weighOne 141 = .ok (.iconst 0, 1) := by decide +kernel
theorem dX1_weighOne_142 : decode cX1_weighOne 142 = .ok (.iastore, 1) := by decide +kernel
theorem dX1_weighOne_143 : decode cX1_weighOne 143 = .ok (.aload_n 0, 1) := by decide +kernel
theorem dX1_weighOne_144 : decode cX1_weighOne 144 = .ok (.getfield 30, 3) := by decide +kernel
theorem dX1_weighOne_147 : decode cX1_weighOne 147 = .ok (.iload_n 1, 1) := by decide +kernel
theorem dX1_weighOne_148 : decode cX1_weighOne 148 = .ok (.iconst 0, 1) := by decide +kernel
theorem dX1_weighOne_149 : decode cX1_weighOne 149 = .ok (.iastore, 1) := by decide +kernel
theorem dX1_weighOne_150 : decode cX1_weighOne 150 = .ok (.iload 6, 2) := by decide +kernel
theorem dX1_weighOne_152 : decode cX1_weighOne 152 = .ok (.iload 7, 2) := by decide +kernel
theorem dX1_weighOne_154 : decode cX1_weighOne 154 = .ok (.if_icmp .eq 38, 3) := by decide +kernel
theorem dX1_weighOne_157 : decode cX1_weighOne 157 = .ok (.aload_n 0, 1) := by decide +kernel
theorem dX1_weighOne_158 : decode cX1_weighOne 158 = .ok (.getfield 27, 3) := by decide +kernel
theorem dX1_weighOne_161 : decode cX1_weighOne 161 = .ok (.iload_n 1, 1) := by decide +kernel
theorem dX1_weighOne_162 : decode cX1_weighOne 162 = .ok (.dup2, 1) := by decide +kernel
theorem dX1_weighOne_163 : decode cX1_weighOne 163 = .ok (.iaload, 1) := by decide +kernel
theorem dX1_weighOne_164 : decode cX1_weighOne 164 = .ok (.iconst 1, 1) := by decide +kernel
theorem dX1_weighOne_165 : decode cX1_weighOne 165 = .ok (.iload 4, 2) := by decide +kernel
theorem dX1_weighOne_167 : decode cX1_weighOne 167 = .ok (.ishl, 1) := by decide +kernel
theorem dX1_weighOne_168 : decode cX1_weighOne 168 = .ok (.ior, 1) := by decide +kernel
theorem dX1_weighOne_169 : decode cX1_weighOne 169 = .ok (.iastore, 1) := by decide +kernel
theorem dX1_weighOne_170 : decode cX1_weighOne 170 = .ok (.aload_n 0, 1) := by decide +kernel
theorem dX1_weighOne_171 : decode cX1_weighOne 171 = .ok (.getfield 30, 3) := by decide +kernel
theorem dX1_weighOne_174 : decode cX1_weighOne 174 = .ok (.iload_n 1, 1) := by decide +kernel
theorem dX1_weighOne_175 : decode cX1_weighOne 175 = .ok (.dup2, 1) := by decide +kernel
theorem dX1_weighOne_176 : decode cX1_weighOne 176 = .ok (.iaload, 1) := by decide +kernel
theorem dX1_weighOne_177 : decode cX1_weighOne 177 = .ok (.iload 7, 2) := by decide +kernel
theorem dX1_weighOne_179 : decode cX1_weighOne 179 = .ok (.ifCond .eq 10, 3) := by decide +kernel
theorem dX1_weighOne_182 : decode cX1_weighOne 182 = .ok (.iconst 1, 1) := by decide +kernel
theorem dX1_weighOne_183 : decode cX1_weighOne 183 = .ok (.iload 4, 2) := by decide +kernel
theorem dX1_weighOne_185 : decode cX1_weighOne 185 = .ok (.ishl, 1) := by decide +kernel
theorem dX1_weighOne_186 : decode cX1_weighOne 186 = .ok (.goto 4, 3) := by decide +kernel
theorem dX1_weighOne_189 : decode cX1_weighOne 189 = .ok (.iconst 0, 1) := by decide +kernel
theorem dX1_weighOne_190 : decode cX1_weighOne 190 = .ok (.ior, 1) := by decide +kernel
theorem dX1_weighOne_191 : decode cX1_weighOne 191 = .ok (.iastore, 1) := by decide +kernel
theorem dX1_weighOne_192 : decode cX1_weighOne 192 = .ok (.iload 8, 2) := by decide +kernel
theorem dX1_weighOne_194 : decode cX1_weighOne 194 = .ok (.iload 9, 2) := by decide +kernel
theorem dX1_weighOne_196 : decode cX1_weighOne 196 = .ok (.if_icmp .eq 38, 3) := by decide +kernel
theorem dX1_weighOne_199 : decode cX1_weighOne 199 = .ok (.aload_n 0, 1) := by decide +kernel
theorem dX1_weighOne_200 : decode cX1_weighOne 200 = .ok (.getfield 27, 3) := by decide +kernel
theorem dX1_weighOne_203 : decode cX1_weighOne 203 = .ok (.iload_n 1, 1) := by decide +kernel
theorem dX1_weighOne_204 : decode cX1_weighOne 204 = .ok (.dup2, 1) := by decide +kernel
theorem dX1_weighOne_205 : decode cX1_weighOne 205 = .ok (.iaload, 1) := by decide +kernel
theorem dX1_weighOne_206 : decode cX1_weighOne 206 = .ok (.iconst 1, 1) := by decide +kernel
theorem dX1_weighOne_207 : decode cX1_weighOne 207 = .ok (.iload 5, 2) := by decide +kernel
theorem dX1_weighOne_209 : decode cX1_weighOne 209 = .ok (.ishl, 1) := by decide +kernel
theorem dX1_weighOne_210 : decode cX1_weighOne 210 = .ok (.ior, 1) := by decide +kernel
theorem dX1_weighOne_211 : decode cX1_weighOne 211 = .ok (.iastore, 1) := by decide +kernel
theorem dX1_weighOne_212 : decode cX1_weighOne 212 = .ok (.aload_n 0, 1) := by decide +kernel
theorem dX1_weighOne_213 : decode cX1_weighOne 213 = .ok (.getfield 30, 3) := by decide +kernel
theorem dX1_weighOne_216 : decode cX1_weighOne 216 = .ok (.iload_n 1, 1) := by decide +kernel
theorem dX1_weighOne_217 : decode cX1_weighOne 217 = .ok (.dup2, 1) := by decide +kernel
theorem dX1_weighOne_218 : decode cX1_weighOne 218 = .ok (.iaload, 1) := by decide +kernel
theorem dX1_weighOne_219 : decode cX1_weighOne 219 = .ok (.iload 8, 2) := by decide +kernel
theorem dX1_weighOne_221 : decode cX1_weighOne 221 = .ok (.ifCond .eq 10, 3) := by decide +kernel
theorem dX1_weighOne_224 : decode cX1_weighOne 224 = .ok (.iconst 1, 1) := by decide +kernel
theorem dX1_weighOne_225 : decode cX1_weighOne 225 = .ok (.iload 5, 2) := by decide +kernel
theorem dX1_weighOne_227 : decode cX1_weighOne 227 = .ok (.ishl, 1) := by decide +kernel
theorem dX1_weighOne_228 : decode cX1_weighOne 228 = .ok (.goto 4, 3) := by decide +kernel
theorem dX1_weighOne_231 : decode cX1_weighOne 231 = .ok (.iconst 0, 1) := by decide +kernel
theorem dX1_weighOne_232 : decode cX1_weighOne 232 = .ok (.ior, 1) := by decide +kernel
theorem dX1_weighOne_233 : decode cX1_weighOne 233 = .ok (.iastore, 1) := by decide +kernel
theorem dX1_weighOne_234 : decode cX1_weighOne 234 = .ok (.return_, 1) := by decide +kernel
theorem dX1_holds_0 : decode cX1_holds 0 = .ok (.iload_n 2, 1) := by decide +kernel
theorem dX1_holds_1 : decode cX1_holds 1 = .ok (.aload_n 0, 1) := by decide +kernel
theorem dX1_holds_2 : decode cX1_holds 2 = .ok (.getfield 21, 3) := by decide +kernel
theorem dX1_holds_5 : decode cX1_holds 5 = .ok (.iload_n 1, 1) := by decide +kernel
theorem dX1_holds_6 : decode cX1_holds 6 = .ok (.iaload, 1) := by decide +kernel
theorem dX1_holds_7 : decode cX1_holds 7 = .ok (.if_icmp .lt 17, 3) := by decide +kernel
theorem dX1_holds_10 : decode cX1_holds 10 = .ok (.iload_n 2, 1) := by decide +kernel
theorem dX1_holds_11 : decode cX1_holds 11 = .ok (.aload_n 0, 1) := by decide +kernel
theorem dX1_holds_12 : decode cX1_holds 12 = .ok (.getfield 24, 3) := by decide +kernel
theorem dX1_holds_15 : decode cX1_holds 15 = .ok (.iload_n 1, 1) := by decide +kernel
theorem dX1_holds_16 : decode cX1_holds 16 = .ok (.iaload, 1) := by decide +kernel
theorem dX1_holds_17 : decode cX1_holds 17 = .ok (.if_icmp .gt 7, 3) := by decide +kernel
theorem dX1_holds_20 : decode cX1_holds 20 = .ok (.iconst 1, 1) := by decide +kernel
theorem dX1_holds_21 : decode cX1_holds 21 = .ok (.goto 4, 3) := by decide +kernel
theorem dX1_holds_24 : decode cX1_holds 24 = .ok (.iconst 0, 1) := by decide +kernel
theorem dX1_holds_25 : decode cX1_holds 25 = .ok (.ireturn, 1) := by decide +kernel
theorem dX1_neverBreaks_0 : decode cX1_neverBreaks 0 = .ok (.aload_n 0, 1) := by decide +kernel
theorem dX1_neverBreaks_1 : decode cX1_neverBreaks 1 = .ok (.getfield 27, 3) := by decide +kernel
theorem dX1_neverBreaks_4 : decode cX1_neverBreaks 4 = .ok (.iload_n 1, 1) := by decide +kernel
theorem dX1_neverBreaks_5 : decode cX1_neverBreaks 5 = .ok (.iconst 0, 1) := by decide +kernel
theorem dX1_neverBreaks_6 : decode cX1_neverBreaks 6 = .ok (.iastore, 1) := by decide +kernel
theorem dX1_neverBreaks_7 : decode cX1_neverBreaks 7 = .ok (.aload_n 0, 1) := by decide +kernel
theorem dX1_neverBreaks_8 : decode cX1_neverBreaks 8 = .ok (.getfield 30, 3) := by decide +kernel
theorem dX1_neverBreaks_11 : decode cX1_neverBreaks 11 = .ok (.iload_n 1, 1) := by decide +kernel
theorem dX1_neverBreaks_12 : decode cX1_neverBreaks 12 = .ok (.iconst 1, 1) := by decide +kernel
theorem dX1_neverBreaks_13 : decode cX1_neverBreaks 13 = .ok (.iastore, 1) := by decide +kernel
theorem dX1_neverBreaks_14 : decode cX1_neverBreaks 14 = .ok (.return_, 1) := by decide +kernel
theorem dX1_firstBroken_0 : decode cX1_firstBroken 0 = .ok (.iconst 0, 1) := by decide +kernel
theorem dX1_firstBroken_1 : decode cX1_firstBroken 1 = .ok (.istore_n 2, 1) := by decide +kernel
theorem dX1_firstBroken_2 : decode cX1_firstBroken 2 = .ok (.iload_n 2, 1) := by decide +kernel
theorem dX1_firstBroken_3 : decode cX1_firstBroken 3 = .ok (.aload_n 0, 1) := by decide +kernel
theorem dX1_firstBroken_4 : decode cX1_firstBroken 4 = .ok (.getfield 33, 3) := by decide +kernel
theorem dX1_firstBroken_7 : decode cX1_firstBroken 7 = .ok (.if_icmp .ge 28, 3) := by decide +kernel
theorem dX1_firstBroken_10 : decode cX1_firstBroken 10 = .ok (.iload_n 1, 1) := by decide +kernel
theorem dX1_firstBroken_11 : decode cX1_firstBroken 11 = .ok (.aload_n 0, 1) := by decide +kernel
theorem dX1_firstBroken_12 : decode cX1_firstBroken 12 = .ok (.getfield 27, 3) := by decide +kernel
theorem dX1_firstBroken_15 : decode cX1_firstBroken 15 = .ok (.iload_n 2, 1) := by decide +kernel
theorem dX1_firstBroken_16 : decode cX1_firstBroken 16 = .ok (.iaload, 1) := by decide +kernel
theorem dX1_firstBroken_17 : decode cX1_firstBroken 17 = .ok (.iand, 1) := by decide +kernel
theorem dX1_firstBroken_18 : decode cX1_firstBroken 18 = .ok (.aload_n 0, 1) := by decide +kernel
theorem dX1_firstBroken_19 : decode cX1_firstBroken 19 = .ok (.getfield 30, 3) := by decide +kernel
theorem dX1_firstBroken_22 : decode cX1_firstBroken 22 = .ok (.iload_n 2, 1) := by decide +kernel
theorem dX1_firstBroken_23 : decode cX1_firstBroken 23 = .ok (.iaload, 1) := by decide +kernel
theorem dX1_firstBroken_24 : decode cX1_firstBroken 24 = .ok (.if_icmp .ne 5, 3) := by decide +kernel
theorem dX1_firstBroken_27 : decode cX1_firstBroken 27 = .ok (.iload_n 2, 1) := by decide +kernel
theorem dX1_firstBroken_28 : decode cX1_firstBroken 28 = .ok (.ireturn, 1) := by decide +kernel
theorem dX1_firstBroken_29 : decode cX1_firstBroken 29 = .ok (.iinc 2 1, 3) := by decide +kernel
theorem dX1_firstBroken_32 : decode cX1_firstBroken 32 = .ok (.goto (-30), 3) := by decide +kernel
theorem dX1_firstBroken_35 : decode cX1_firstBroken 35 = .ok (.iconst (-1), 1) := by decide +kernel
theorem dX1_firstBroken_36 : decode cX1_firstBroken 36 = .ok (.ireturn, 1) := by decide +kernel
theorem dX2_init_0 : decode cX2_init 0 = .ok (.aload_n 0, 1) := by decide +kernel
theorem dX2_init_1 : decode cX2_init 1 = .ok (.invokespecial 3, 3) := by decide +kernel
theorem dX2_init_4 : decode cX2_init 4 = .ok (.aload_n 0, 1) := by decide +kernel
theorem dX2_init_5 : decode cX2_init 5 = .ok (.bipush 10, 2) := by decide +kernel
theorem dX2_init_7 : decode cX2_init 7 = .ok (.newarray .int, 2) := by decide +kernel
theorem dX2_init_9 : decode cX2_init 9 = .ok (.putfield 9, 3) := by decide +kernel
theorem dX2_init_12 : decode cX2_init 12 = .ok (.aload_n 0, 1) := by decide +kernel
theorem dX2_init_13 : decode cX2_init 13 = .ok (.bipush 10, 2) := by decide +kernel
theorem dX2_init_15 : decode cX2_init 15 = .ok (.newarray .int, 2) := by decide +kernel
theorem dX2_init_17 : decode cX2_init 17 = .ok (.putfield 15, 3) := by decide +kernel
theorem dX2_init_20 : decode cX2_init 20 = .ok (.aload_n 0, 1) := by decide +kernel
theorem dX2_init_21 : decode cX2_init 21 = .ok (.getfield 9, 3) := by decide +kernel
theorem dX2_init_24 : decode cX2_init 24 = .ok (.iconst (-1), 1) := by decide +kernel
theorem dX2_init_25 : decode cX2_init 25 = .ok (.invokestatic 18, 3) := by decide +kernel
theorem dX2_init_28 : decode cX2_init 28 = .ok (.aload_n 0, 1) := by decide +kernel
theorem dX2_init_29 : decode cX2_init 29 = .ok (.getfield 15, 3) := by decide +kernel
theorem dX2_init_32 : decode cX2_init 32 = .ok (.iconst (-1), 1) := by decide +kernel
theorem dX2_init_33 : decode cX2_init 33 = .ok (.invokestatic 18, 3) := by decide +kernel
theorem dX2_init_36 : decode cX2_init 36 = .ok (.return_, 1) := by decide +kernel
theorem dX2_has_0 : decode cX2_has 0 = .ok (.aload_n 0, 1) := by decide +kernel
theorem dX2_has_1 : decode cX2_has 1 = .ok (.iload_n 1, 1) := by decide +kernel
theorem dX2_has_2 : decode cX2_has 2 = .ok (.invokevirtual 24, 3) := by decide +kernel
theorem dX2_has_5 : decode cX2_has 5 = .ok (.iconst (-1), 1) := by decide +kernel
theorem dX2_has_6 : decode cX2_has 6 = .ok (.if_icmp .eq 7, 3) := by decide +kernel
theorem dX2_has_9 : decode cX2_has 9 = .ok (.iconst 1, 1) := by decide +kernel
theorem dX2_has_10 : decode cX2_has 10 = .ok (.goto 4, 3) := by decide +kernel
theorem dX2_has_13 : decode cX2_has 13 = .ok (.iconst 0, 1) := by decide +kernel
theorem dX2_has_14 : decode cX2_has 14 = .ok (.ireturn, 1) := by decide +kernel
theorem dX2_versionOf_0 : decode cX2_versionOf 0 = .ok (.iload_n 1, 1) := by decide +kernel
theorem dX2_versionOf_1 : decode cX2_versionOf 1 = .ok (.ifCond .lt 18, 3) := by decide +kernel
theorem dX2_versionOf_4 : decode cX2_versionOf 4 = .ok (.iload_n 1, 1) := by decide +kernel
theorem dX2_versionOf_5 : decode cX2_versionOf 5 = .ok (.bipush 10, 2) := by decide +kernel
theorem dX2_versionOf_7 : decode cX2_versionOf 7 = .ok (.if_icmp .ge 12, 3) := by decide +kernel
theorem dX2_versionOf_10 : decode cX2_versionOf 10 = .ok (.aload_n 0, 1) := by decide +kernel
theorem dX2_versionOf_11 : decode cX2_versionOf 11 = .ok (.getfield 9, 3) := by decide +kernel
theorem dX2_versionOf_14 : decode cX2_versionOf 14 = .ok (.iload_n 1, 1) := by decide +kernel
theorem dX2_versionOf_15 : decode cX2_versionOf 15 = .ok (.iaload, 1) := by decide +kernel
theorem dX2_versionOf_16 : decode cX2_versionOf 16 = .ok (.goto 4, 3) := by decide +kernel
theorem dX2_versionOf_19 : decode cX2_versionOf 19 = .ok (.iconst (-1), 1) := by decide +kernel
theorem dX2_versionOf_20 : decode cX2_versionOf 20 = .ok (.ireturn, 1) := by decide +kernel
theorem dX2_worthOf_0 : decode cX2_worthOf 0 = .ok (.iload_n 1, 1) := by decide +kernel
theorem dX2_worthOf_1 : decode cX2_worthOf 1 = .ok (.ifCond .lt 18, 3) := by decide +kernel
theorem dX2_worthOf_4 : decode cX2_worthOf 4 = .ok (.iload_n 1, 1) := by decide +kernel
theorem dX2_worthOf_5 : decode cX2_worthOf 5 = .ok (.bipush 10, 2) := by decide +kernel
theorem dX2_worthOf_7 : decode cX2_worthOf 7 = .ok (.if_icmp .ge 12, 3) := by decide +kernel
theorem dX2_worthOf_10 : decode cX2_worthOf 10 = .ok (.aload_n 0, 1) := by decide +kernel
theorem dX2_worthOf_11 : decode cX2_worthOf 11 = .ok (.getfield 15, 3) := by decide +kernel
theorem dX2_worthOf_14 : decode cX2_worthOf 14 = .ok (.iload_n 1, 1) := by decide +kernel
theorem dX2_worthOf_15 : decode cX2_worthOf 15 = .ok (.iaload, 1) := by decide +kernel
theorem dX2_worthOf_16 : decode cX2_worthOf 16 = .ok (.goto 4, 3) := by decide +kernel
theorem dX2_worthOf_19 : decode cX2_worthOf 19 = .ok (.iconst (-1), 1) := by decide +kernel
theorem dX2_worthOf_20 : decode cX2_worthOf 20 = .ok (.ireturn, 1) := by decide +kernel
theorem dX2_put_0 : decode cX2_put 0 = .ok (.iload_n 1, 1) := by decide +kernel
theorem dX2_put_1 : decode cX2_put 1 = .ok (.ifCond .lt 23, 3) := by decide +kernel
theorem dX2_put_4 : decode cX2_put 4 = .ok (.iload_n 1, 1) := by decide +kernel
theorem dX2_put_5 : decode cX2_put 5 = .ok (.bipush 10, 2) := by decide +kernel
theorem dX2_put_7 : decode cX2_put 7 = .ok (.if_icmp .ge 17, 3) := by decide +kernel
theorem dX2_put_10 : decode cX2_put 10 = .ok (.aload_n 0, 1) := by decide +kernel
theorem dX2_put_11 : decode cX2_put 11 = .ok (.getfield 9, 3) := by decide +kernel
theorem dX2_put_14 : decode cX2_put 14 = .ok (.iload_n 1, 1) := by decide +kernel
theorem dX2_put_15 : decode cX2_put 15 = .ok (.iload_n 2, 1) := by decide +kernel
theorem dX2_put_16 : decode cX2_put 16 = .ok (.iastore, 1) := by decide +kernel
theorem dX2_put_17 : decode cX2_put 17 = .ok (.aload_n 0, 1) := by decide +kernel
theorem dX2_put_18 : decode cX2_put 18 = .ok (.getfield 15, 3) := by decide +kernel
theorem dX2_put_21 : decode cX2_put 21 = .ok (.iload_n 1, 1) := by decide +kernel
theorem dX2_put_22 : decode cX2_put 22 = .ok (.iload_n 3, 1) := by decide +kernel
theorem dX2_put_23 : decode cX2_put 23 = .ok (.iastore, 1) := by decide +kernel
theorem dX2_put_24 : decode cX2_put 24 = .ok (.return_, 1) := by decide +kernel
theorem dX2_drop_0 : decode cX2_drop 0 = .ok (.aload_n 0, 1) := by decide +kernel
theorem dX2_drop_1 : decode cX2_drop 1 = .ok (.iload_n 1, 1) := by decide +kernel
theorem dX2_drop_2 : decode cX2_drop 2 = .ok (.iconst (-1), 1) := by decide +kernel
theorem dX2_drop_3 : decode cX2_drop 3 = .ok (.iconst (-1), 1) := by decide +kernel
theorem dX2_drop_4 : decode cX2_drop 4 = .ok (.invokevirtual 28, 3) := by decide +kernel
theorem dX2_drop_7 : decode cX2_drop 7 = .ok (.return_, 1) := by decide +kernel
theorem dX2_mask_0 : decode cX2_mask 0 = .ok (.iconst 0, 1) := by decide +kernel
theorem dX2_mask_1 : decode cX2_mask 1 = .ok (.istore_n 1, 1) := by decide +kernel
theorem dX2_mask_2 : decode cX2_mask 2 = .ok (.iconst 0, 1) := by decide +kernel
theorem dX2_mask_3 : decode cX2_mask 3 = .ok (.istore_n 2, 1) := by decide +kernel
theorem dX2_mask_4 : decode cX2_mask 4 = .ok (.iload_n 2, 1) := by decide +kernel
theorem dX2_mask_5 : decode cX2_mask 5 = .ok (.bipush 10, 2) := by decide +kernel
theorem dX2_mask_7 : decode cX2_mask 7 = .ok (.if_icmp .ge 25, 3) := by decide +kernel
theorem dX2_mask_10 : decode cX2_mask 10 = .ok (.aload_n 0, 1) := by decide +kernel
theorem dX2_mask_11 : decode cX2_mask 11 = .ok (.getfield 9, 3) := by decide +kernel
theorem dX2_mask_14 : decode cX2_mask 14 = .ok (.iload_n 2, 1) := by decide +kernel
theorem dX2_mask_15 : decode cX2_mask 15 = .ok (.iaload, 1) := by decide +kernel
theorem dX2_mask_16 : decode cX2_mask 16 = .ok (.iconst (-1), 1) := by decide +kernel
theorem dX2_mask_17 : decode cX2_mask 17 = .ok (.if_icmp .eq 9, 3) := by decide +kernel
theorem dX2_mask_20 : decode cX2_mask 20 = .ok (.iload_n 1, 1) := by decide +kernel
theorem dX2_mask_21 : decode cX2_mask 21 = .ok (.iconst 1, 1) := by decide +kernel
theorem dX2_mask_22 : decode cX2_mask 22 = .ok (.iload_n 2, 1) := by decide +kernel
theorem dX2_mask_23 : decode cX2_mask 23 = .ok (.ishl, 1) := by decide +kernel
theorem dX2_mask_24 : decode cX2_mask 24 = .ok (.ior, 1) := by decide +kernel
theorem dX2_mask_25 : decode cX2_mask 25 = .ok (.istore_n 1, 1) := by decide +kernel
theorem dX2_mask_26 : decode cX2_mask 26 = .ok (.iinc 2 1, 3) := by decide +kernel
theorem dX2_mask_29 : decode cX2_mask 29 = .ok (.goto (-25), 3) := by decide +kernel
theorem dX2_mask_32 : decode cX2_mask 32 = .ok (.iload_n 1, 1) := by decide +kernel
theorem dX2_mask_33 : decode cX2_mask 33 = .ok (.ireturn, 1) := by decide +kernel
theorem dX2_sum_0 : decode cX2_sum 0 = .ok (.iconst 0, 1) := by decide +kernel
theorem dX2_sum_1 : decode cX2_sum 1 = .ok (.istore_n 2, 1) := by decide +kernel
theorem dX2_sum_2 : decode cX2_sum 2 = .ok (.iconst 0, 1) := by decide +kernel
theorem dX2_sum_3 : decode cX2_sum 3 = .ok (.istore_n 3, 1) := by decide +kernel
theorem dX2_sum_4 : decode cX2_sum 4 = .ok (.iload_n 3, 1) := by decide +kernel
theorem dX2_sum_5 : decode cX2_sum 5 = .ok (.bipush 10, 2) := by decide +kernel
theorem dX2_sum_7 : decode cX2_sum 7 = .ok (.if_icmp .ge 26, 3) := by decide +kernel
theorem dX2_sum_10 : decode cX2_sum 10 = .ok (.iload_n 1, 1) := by decide +kernel
theorem dX2_sum_11 : decode cX2_sum 11 = .ok (.iload_n 3, 1) := by decide +kernel
theorem dX2_sum_12 : decode cX2_sum 12 = .ok (.ishr, 1) := by decide +kernel
theorem dX2_sum_13 : decode cX2_sum 13 = .ok (.iconst 1, 1) := by decide +kernel
theorem dX2_sum_14 : decode cX2_sum 14 = .ok (.iand, 1) := by decide +kernel
theorem dX2_sum_15 : decode cX2_sum 15 = .ok (.ifCond .eq 12, 3) := by decide +kernel
theorem dX2_sum_18 : decode cX2_sum 18 = .ok (.iload_n 2, 1) := by decide +kernel
theorem dX2_sum_19 : decode cX2_sum 19 = .ok (.aload_n 0, 1) := by decide +kernel
theorem dX2_sum_20 : decode cX2_sum 20 = .ok (.getfield 15, 3) := by decide +kernel
theorem dX2_sum_23 : decode cX2_sum 23 = .ok (.iload_n 3, 1) := by decide +kernel
theorem dX2_sum_24 : decode cX2_sum 24 = .ok (.iaload, 1) := by decide +kernel
theorem dX2_sum_25 : decode cX2_sum 25 = .ok (.iadd, 1) := by decide +kernel
theorem dX2_sum_26 : decode cX2_sum 26 = .ok (.istore_n 2, 1) := by decide +kernel
theorem dX2_sum_27 : decode cX2_sum 27 = .ok (.iinc 3 1, 3) := by decide +kernel
theorem dX2_sum_30 : decode cX2_sum 30 = .ok (.goto (-26), 3) := by decide +kernel
theorem dX2_sum_33 : decode cX2_sum 33 = .ok (.iload_n 2, 1) := by decide +kernel
theorem dX2_sum_34 : decode cX2_sum 34 = .ok (.ireturn, 1) := by decide +kernel
theorem dX3_init_0 : decode cX3_init 0 = .ok (.aload_n 0, 1) := by decide +kernel
theorem dX3_init_1 : decode cX3_init 1 = .ok (.invokespecial 3, 3) := by decide +kernel
theorem dX3_init_4 : decode cX3_init 4 = .ok (.aload_n 0, 1) := by decide +kernel
theorem dX3_init_5 : decode cX3_init 5 = .ok (.bipush 60, 2) := by decide +kernel
theorem dX3_init_7 : decode cX3_init 7 = .ok (.newarray .int, 2) := by decide +kernel
theorem dX3_init_9 : decode cX3_init 9 = .ok (.putfield 9, 3) := by decide +kernel
theorem dX3_init_12 : decode cX3_init 12 = .ok (.aload_n 0, 1) := by decide +kernel
theorem dX3_init_13 : decode cX3_init 13 = .ok (.bipush 60, 2) := by decide +kernel
theorem dX3_init_15 : decode cX3_init 15 = .ok (.newarray .int, 2) := by decide +kernel
theorem dX3_init_17 : decode cX3_init 17 = .ok (.putfield 15, 3) := by decide +kernel
theorem dX3_init_20 : decode cX3_init 20 = .ok (.aload_n 0, 1) := by decide +kernel
theorem dX3_init_21 : decode cX3_init 21 = .ok (.iconst 0, 1) := by decide +kernel
theorem dX3_init_22 : decode cX3_init 22 = .ok (.putfield 18, 3) := by decide +kernel
theorem dX3_init_25 : decode cX3_init 25 = .ok (.return_, 1) := by decide +kernel
theorem dX3_find_0 : decode cX3_find 0 = .ok (.iconst 0, 1) := by decide +kernel
theorem dX3_find_1 : decode cX3_find 1 = .ok (.istore_n 3, 1) := by decide +kernel
theorem dX3_find_2 : decode cX3_find 2 = .ok (.iload_n 3, 1) := by decide +kernel
theorem dX3_find_3 : decode cX3_find 3 = .ok (.aload_n 0, 1) := by decide +kernel
theorem dX3_find_4 : decode cX3_find 4 = .ok (.getfield 18, 3) := by decide +kernel
theorem dX3_find_7 : decode cX3_find 7 = .ok (.if_icmp .ge 31, 3) := by decide +kernel
theorem dX3_find_10 : decode cX3_find 10 = .ok (.aload_n 0, 1) := by decide +kernel
theorem dX3_find_11 : decode cX3_find 11 = .ok (.getfield 9, 3) := by decide +kernel
theorem dX3_find_14 : decode cX3_find 14 = .ok (.iload_n 3, 1) := by decide +kernel
theorem dX3_find_15 : decode cX3_find 15 = .ok (.iaload, 1) := by decide +kernel
theorem dX3_find_16 : decode cX3_find 16 = .ok (.iload_n 1, 1) := by decide +kernel
theorem dX3_find_17 : decode cX3_find 17 = .ok (.if_icmp .ne 15, 3) := by decide +kernel
theorem dX3_find_20 : decode cX3_find 20 = .ok (.aload_n 0, 1) := by decide +kernel
theorem dX3_find_21 : decode cX3_find 21 = .ok (.getfield 15, 3) := by decide +kernel
theorem dX3_find_24 : decode cX3_find 24 = .ok (.iload_n 3, 1) := by decide +kernel
theorem dX3_find_25 : decode cX3_find 25 = .ok (.iaload, 1) := by decide +kernel
theorem dX3_find_26 : decode cX3_find 26 = .ok (.iload_n 2, 1) := by decide +kernel
theorem dX3_find_27 : decode cX3_find 27 = .ok (.if_icmp .ne 5, 3) := by decide +kernel
theorem dX3_find_30 : decode cX3_find 30 = .ok (.iload_n 3, 1) := by decide +kernel
theorem dX3_find_31 : decode cX3_find 31 = .ok (.ireturn, 1) := by decide +kernel
theorem dX3_find_32 : decode cX3_find 32 = .ok (.iinc 3 1, 3) := by decide +kernel
theorem dX3_find_35 : decode cX3_find 35 = .ok (.goto (-33), 3) := by decide +kernel
theorem dX3_find_38 : decode cX3_find 38 = .ok (.iconst (-1), 1) := by decide +kernel
theorem dX3_find_39 : decode cX3_find 39 = .ok (.ireturn, 1) := by decide +kernel
theorem dX3_add_0 : decode cX3_add 0 = .ok (.aload_n 0, 1) := by decide +kernel
theorem dX3_add_1 : decode cX3_add 1 = .ok (.getfield 18, 3) := by decide +kernel
theorem dX3_add_4 : decode cX3_add 4 = .ok (.bipush 60, 2) := by decide +kernel
theorem dX3_add_6 : decode cX3_add 6 = .ok (.if_icmp .ge 13, 3) := by decide +kernel
theorem dX3_add_9 : decode cX3_add 9 = .ok (.aload_n 0, 1) := by decide +kernel
theorem dX3_add_10 : decode cX3_add 10 = .ok (.iload_n 1, 1) := by decide +kernel
theorem dX3_add_11 : decode cX3_add 11 = .ok (.iload_n 2, 1) := by decide +kernel
theorem dX3_add_12 : decode cX3_add 12 = .ok (.invokevirtual 22, 3) := by decide +kernel
theorem dX3_add_15 : decode cX3_add 15 = .ok (.iconst (-1), 1) := by decide +kernel
theorem dX3_add_16 : decode cX3_add 16 = .ok (.if_icmp .eq 5, 3) := by decide +kernel
theorem dX3_add_19 : decode cX3_add 19 = .ok (.iconst 0, 1) := by decide +kernel
theorem dX3_add_20 : decode cX3_add 20 = .ok (.ireturn, 1) := by decide +kernel
theorem dX3_add_21 : decode cX3_add 21 = .ok (.aload_n 0, 1) := by decide +kernel
theorem dX3_add_22 : decode cX3_add 22 = .ok (.getfield 9, 3) := by decide +kernel
theorem dX3_add_25 : decode cX3_add 25 = .ok (.aload_n 0, 1) := by decide +kernel
theorem dX3_add_26 : decode cX3_add 26 = .ok (.getfield 18, 3) := by decide +kernel
theorem dX3_add_29 : decode cX3_add 29 = .ok (.iload_n 1, 1) := by decide +kernel
theorem dX3_add_30 : decode cX3_add 30 = .ok (.iastore, 1) := by decide +kernel
theorem dX3_add_31 : decode cX3_add 31 = .ok (.aload_n 0, 1) := by decide +kernel
theorem dX3_add_32 : decode cX3_add 32 = .ok (.getfield 15, 3) := by decide +kernel
theorem dX3_add_35 : decode cX3_add 35 = .ok (.aload_n 0, 1) := by decide +kernel
theorem dX3_add_36 : decode cX3_add 36 = .ok (.getfield 18, 3) := by decide +kernel
theorem dX3_add_39 : decode cX3_add 39 = .ok (.iload_n 2, 1) := by decide +kernel
theorem dX3_add_40 : decode cX3_add 40 = .ok (.iastore, 1) := by decide +kernel
theorem dX3_add_41 : decode cX3_add 41 = .ok (.aload_n 0, 1) := by decide +kernel
theorem dX3_add_42 : decode cX3_add 42 = .ok (.dup, 1) := by decide +kernel
theorem dX3_add_43 : decode cX3_add 43 = .ok (.getfield 18, 3) := by decide +kernel
theorem dX3_add_46 : decode cX3_add 46 = .ok (.iconst 1, 1) := by decide +kernel
theorem dX3_add_47 : decode cX3_add 47 = .ok (.iadd, 1) := by decide +kernel
theorem dX3_add_48 : decode cX3_add 48 = .ok (.putfield 18, 3) := by decide +kernel
theorem dX3_add_51 : decode cX3_add 51 = .ok (.iconst 1, 1) := by decide +kernel
theorem dX3_add_52 : decode cX3_add 52 = .ok (.ireturn, 1) := by decide +kernel
theorem dX3_remove_0 : decode cX3_remove 0 = .ok (.aload_n 0, 1) := by decide +kernel
theorem dX3_remove_1 : decode cX3_remove 1 = .ok (.iload_n 1, 1) := by decide +kernel
theorem dX3_remove_2 : decode cX3_remove 2 = .ok (.iload_n 2, 1) := by decide +kernel
theorem dX3_remove_3 : decode cX3_remove 3 = .ok (.invokevirtual 22, 3) := by decide +kernel
theorem dX3_remove_6 : decode cX3_remove 6 = .ok (.istore_n 3, 1) := by decide +kernel
theorem dX3_remove_7 : decode cX3_remove 7 = .ok (.iload_n 3, 1) := by decide +kernel
theorem dX3_remove_8 : decode cX3_remove 8 = .ok (.iconst (-1), 1) := by decide +kernel
theorem dX3_remove_9 : decode cX3_remove 9 = .ok (.if_icmp .ne 5, 3) := by decide +kernel
theorem dX3_remove_12 : decode cX3_remove 12 = .ok (.iconst 0, 1) := by decide +kernel
theorem dX3_remove_13 : decode cX3_remove 13 = .ok (.ireturn, 1) := by decide +kernel
theorem dX3_remove_14 : decode cX3_remove 14 = .ok (.aload_n 0, 1) := by decide +kernel
theorem dX3_remove_15 : decode cX3_remove 15 = .ok (.dup, 1) := by decide +kernel
theorem dX3_remove_16 : decode cX3_remove 16 = .ok (.getfield 18, 3) := by decide +kernel
theorem dX3_remove_19 : decode cX3_remove 19 = .ok (.iconst 1, 1) := by decide +kernel
theorem dX3_remove_20 : decode cX3_remove 20 = .ok (.isub, 1) := by decide +kernel
theorem dX3_remove_21 : decode cX3_remove 21 = .ok (.putfield 18, 3) := by decide +kernel
theorem dX3_remove_24 : decode cX3_remove 24 = .ok (.aload_n 0, 1) := by decide +kernel
theorem dX3_remove_25 : decode cX3_remove 25 = .ok (.getfield 9, 3) := by decide +kernel
theorem dX3_remove_28 : decode cX3_remove 28 = .ok (.iload_n 3, 1) := by decide +kernel
theorem dX3_remove_29 : decode cX3_remove 29 = .ok (.aload_n 0, 1) := by decide +kernel
theorem dX3_remove_30 : decode cX3_remove 30 = .ok (.getfield 9, 3) := by decide +kernel
theorem dX3_remove_33 : decode cX3_remove 33 = .ok (.aload_n 0, 1) := by decide +kernel
theorem dX3_remove_34 : decode cX3_remove 34 = .ok (.getfield 18, 3) := by decide +kernel
theorem dX3_remove_37 : decode cX3_remove 37 = .ok (.iaload, 1) := by decide +kernel
theorem dX3_remove_38 : decode cX3_remove 38 = .ok (.iastore, 1) := by decide +kernel
theorem dX3_remove_39 : decode cX3_remove 39 = .ok (.aload_n 0, 1) := by decide +kernel
theorem dX3_remove_40 : decode cX3_remove 40 = .ok (.getfield 15, 3) := by decide +kernel
theorem dX3_remove_43 : decode cX3_remove 43 = .ok (.iload_n 3, 1) := by decide +kernel
theorem dX3_remove_44 : decode cX3_remove 44 = .ok (.aload_n 0, 1) := by decide +kernel
theorem dX3_remove_45 : decode cX3_remove 45 = .ok (.getfield 15, 3) := by decide +kernel
theorem dX3_remove_48 : decode cX3_remove 48 = .ok (.aload_n 0, 1) := by decide +kernel
theorem dX3_remove_49 : decode cX3_remove 49 = .ok (.getfield 18, 3) := by decide +kernel
theorem dX3_remove_52 : decode cX3_remove 52 = .ok (.iaload, 1) := by decide +kernel
theorem dX3_remove_53 : decode cX3_remove 53 = .ok (.iastore, 1) := by decide +kernel
theorem dX3_remove_54 : decode cX3_remove 54 = .ok (.iconst 1, 1) := by decide +kernel
theorem dX3_remove_55 : decode cX3_remove 55 = .ok (.ireturn, 1) := by decide +kernel
theorem dX4_init_0 : decode cX4_init 0 = .ok (.aload_n 0, 1) := by decide +kernel
theorem dX4_init_1 : decode cX4_init 1 = .ok (.invokespecial 3, 3) := by decide +kernel
theorem dX4_init_4 : decode cX4_init 4 = .ok (.aload_n 0, 1) := by decide +kernel
theorem dX4_init_5 : decode cX4_init 5 = .ok (.bipush 10, 2) := by decide +kernel
theorem dX4_init_7 : decode cX4_init 7 = .ok (.newarray .int, 2) := by decide +kernel
theorem dX4_init_9 : decode cX4_init 9 = .ok (.putfield 9, 3) := by decide +kernel
theorem dX4_init_12 : decode cX4_init 12 = .ok (.aload_n 0, 1) := by decide +kernel
theorem dX4_init_13 : decode cX4_init 13 = .ok (.iconst (-1), 1) := by decide +kernel
theorem dX4_init_14 : decode cX4_init 14 = .ok (.putfield 15, 3) := by decide +kernel
theorem dX4_init_17 : decode cX4_init 17 = .ok (.return_, 1) := by decide +kernel
theorem dX4_isFound_0 : decode cX4_isFound 0 = .ok (.aload_n 0, 1) := by decide +kernel
theorem dX4_isFound_1 : decode cX4_isFound 1 = .ok (.getfield 15, 3) := by decide +kernel
theorem dX4_isFound_4 : decode cX4_isFound 4 = .ok (.iconst (-1), 1) := by decide +kernel
theorem dX4_isFound_5 : decode cX4_isFound 5 = .ok (.if_icmp .eq 7, 3) := by decide +kernel
theorem dX4_isFound_8 : decode cX4_isFound 8 = .ok (.iconst 1, 1) := by decide +kernel
theorem dX4_isFound_9 : decode cX4_isFound 9 = .ok (.goto 4, 3) := by decide +kernel
theorem dX4_isFound_12 : decode cX4_isFound 12 = .ok (.iconst 0, 1) := by decide +kernel
theorem dX4_isFound_13 : decode cX4_isFound 13 = .ok (.ireturn, 1) := by decide +kernel
theorem dX4_partAt_0 : decode cX4_partAt 0 = .ok (.iload_n 1, 1) := by decide +kernel
theorem dX4_partAt_1 : decode cX4_partAt 1 = .ok (.ifCond .lt 26, 3) := by decide +kernel
theorem dX4_partAt_4 : decode cX4_partAt 4 = .ok (.iload_n 1, 1) := by decide +kernel
theorem dX4_partAt_5 : decode cX4_partAt 5 = .ok (.aload_n 0, 1) := by decide +kernel
theorem dX4_partAt_6 : decode cX4_partAt 6 = .ok (.getfield 15, 3) := by decide +kernel
theorem dX4_partAt_9 : decode cX4_partAt 9 = .ok (.if_icmp .ge 18, 3) := by decide +kernel
theorem dX4_partAt_12 : decode cX4_partAt 12 = .ok (.iload_n 1, 1) := by decide +kernel
theorem dX4_partAt_13 : decode cX4_partAt 13 = .ok (.bipush 10, 2) := by decide +kernel
theorem dX4_partAt_15 : decode cX4_partAt 15 = .ok (.if_icmp .ge 12, 3) := by decide +kernel
theorem dX4_partAt_18 : decode cX4_partAt 18 = .ok (.aload_n 0, 1) := by decide +kernel
theorem dX4_partAt_19 : decode cX4_partAt 19 = .ok (.getfield 9, 3) := by decide +kernel
theorem dX4_partAt_22 : decode cX4_partAt 22 = .ok (.iload_n 1, 1) := by decide +kernel
theorem dX4_partAt_23 : decode cX4_partAt 23 = .ok (.iaload, 1) := by decide +kernel
theorem dX4_partAt_24 : decode cX4_partAt 24 = .ok (.goto 4, 3) := by decide +kernel
theorem dX4_partAt_27 : decode cX4_partAt 27 = .ok (.iconst (-1), 1) := by decide +kernel
theorem dX4_partAt_28 : decode cX4_partAt 28 = .ok (.ireturn, 1) := by decide +kernel
theorem dX4_plan_0 : decode cX4_plan 0 = .ok (.iload_n 2, 1) := by decide +kernel
theorem dX4_plan_1 : decode cX4_plan 1 = .ok (.invokestatic 19, 3) := by decide +kernel
theorem dX4_plan_4 : decode cX4_plan 4 = .ok (.istore_n 3, 1) := by decide +kernel
theorem dX4_plan_5 : decode cX4_plan 5 = .ok (.aload_n 1, 1) := by decide +kernel
theorem dX4_plan_6 : decode cX4_plan 6 = .ok (.iconst 0, 1) := by decide +kernel
theorem dX4_plan_7 : decode cX4_plan 7 = .ok (.invokevirtual 25, 3) := by decide +kernel
theorem dX4_plan_10 : decode cX4_plan 10 = .ok (.iconst (-1), 1) := by decide +kernel
theorem dX4_plan_11 : decode cX4_plan 11 = .ok (.if_icmp .ne 7, 3) := by decide +kernel
theorem dX4_plan_14 : decode cX4_plan 14 = .ok (.iconst 0, 1) := by decide +kernel
theorem dX4_plan_15 : decode cX4_plan 15 = .ok (.goto 4, 3) := by decide +kernel
theorem dX4_plan_18 : decode cX4_plan 18 = .ok (.iconst (-1), 1) := by decide +kernel
theorem dX4_plan_19 : decode cX4_plan 19 = .ok (.istore 4, 2) := by decide +kernel
theorem dX4_plan_21 : decode cX4_plan 21 = .ok (.iconst 0, 1) := by decide +kernel
theorem dX4_plan_22 : decode cX4_plan 22 = .ok (.istore 5, 2) := by decide +kernel
theorem dX4_plan_24 : decode cX4_plan 24 = .ok (.iload 5, 2) := by decide +kernel
theorem dX4_plan_26 : decode cX4_plan 26 = .ok (.iload_n 3, 1) := by decide +kernel
theorem dX4_plan_27 : decode cX4_plan 27 = .ok (.if_icmp .ge 65, 3) := by decide +kernel
theorem dX4_plan_30 : decode cX4_plan 30 = .ok (.iload 5, 2) := by decide +kernel
theorem dX4_plan_32 : decode cX4_plan 32 = .ok (.bipush 10, 2) := by decide +kernel
theorem dX4_plan_34 : decode cX4_plan 34 = .ok (.if_icmp .ge 58, 3) := by decide +kernel
theorem dX4_plan_37 : decode cX4_plan 37 = .ok (.iload 4, 2) := by decide +kernel
theorem dX4_plan_39 : decode cX4_plan 39 = .ok (.iconst (-1), 1) := by decide +kernel
theorem dX4_plan_40 : decode cX4_plan 40 = .ok (.if_icmp .eq 52, 3) := by decide +kernel
theorem dX4_plan_43 : decode cX4_plan 43 = .ok (.aload_n 0, 1) := by decide +kernel
theorem dX4_plan_44 : decode cX4_plan 44 = .ok (.getfield 9, 3) := by decide +kernel
theorem dX4_plan_47 : decode cX4_plan 47 = .ok (.iload 5, 2) := by decide +kernel
theorem dX4_plan_49 : decode cX4_plan 49 = .ok (.aload_n 1, 1) := by decide +kernel
theorem dX4_plan_50 : decode cX4_plan 50 = .ok (.iload_n 2, 1) := by decide +kernel
theorem dX4_plan_51 : decode cX4_plan 51 = .ok (.iload 4, 2) := by decide +kernel
theorem dX4_plan_53 : decode cX4_plan 53 = .ok (.invokestatic 30, 3) := by decide +kernel
theorem dX4_plan_56 : decode cX4_plan 56 = .ok (.iastore, 1) := by decide +kernel
theorem dX4_plan_57 : decode cX4_plan 57 = .ok (.aload_n 0, 1) := by decide +kernel
theorem dX4_plan_58 : decode cX4_plan 58 = .ok (.getfield 9, 3) := by decide +kernel
theorem dX4_plan_61 : decode cX4_plan 61 = .ok (.iload 5, 2) := by decide +kernel
theorem dX4_plan_63 : decode cX4_plan 63 = .ok (.iaload, 1) := by decide +kernel
theorem dX4_plan_64 : decode cX4_plan 64 = .ok (.iconst (-1), 1) := by decide +kernel
theorem dX4_plan_65 : decode cX4_plan 65 = .ok (.if_icmp .eq 18, 3) := by decide +kernel
theorem dX4_plan_68 : decode cX4_plan 68 = .ok (.iload 4, 2) := by decide +kernel
theorem dX4_plan_70 : decode cX4_plan 70 = .ok (.iconst 1, 1) := by decide +kernel
theorem dX4_plan_71 : decode cX4_plan 71 = .ok (.aload_n 0, 1) := by decide +kernel
theorem dX4_plan_72 : decode cX4_plan 72 = .ok (.getfield 9, 3) := by decide +kernel
theorem dX4_plan_75 : decode cX4_plan 75 = .ok (.iload 5, 2) := by decide +kernel
theorem dX4_plan_77 : decode cX4_plan 77 = .ok (.iaload, 1) := by decide +kernel
theorem dX4_plan_78 : decode cX4_plan 78 = .ok (.ishl, 1) := by decide +kernel
theorem dX4_plan_79 : decode cX4_plan 79 = .ok (.ior, 1) := by decide +kernel
theorem dX4_plan_80 : decode cX4_plan 80 = .ok (.goto 4, 3) := by decide +kernel
theorem dX4_plan_83 : decode cX4_plan 83 = .ok (.iconst (-1), 1) := by decide +kernel
theorem dX4_plan_84 : decode cX4_plan 84 = .ok (.istore 4, 2) := by decide +kernel
theorem dX4_plan_86 : decode cX4_plan 86 = .ok (.iinc 5 1, 3) := by decide +kernel
theorem dX4_plan_89 : decode cX4_plan 89 = .ok (.goto (-65), 3) := by decide +kernel
theorem dX4_plan_92 : decode cX4_plan 92 = .ok (.aload_n 0, 1) := by decide +kernel
theorem dX4_plan_93 : decode cX4_plan 93 = .ok (.iload 4, 2) := by decide +kernel
theorem dX4_plan_95 : decode cX4_plan 95 = .ok (.iconst (-1), 1) := by decide +kernel
theorem dX4_plan_96 : decode cX4_plan 96 = .ok (.if_icmp .eq 7, 3) := by decide +kernel
theorem dX4_plan_99 : decode cX4_plan 99 = .ok (.iload_n 3, 1) := by decide +kernel
theorem dX4_plan_100 : decode cX4_plan 100 = .ok (.goto 4, 3) := by decide +kernel
theorem dX4_plan_103 : decode cX4_plan 103 = .ok (.iconst (-1), 1) := by decide +kernel
theorem dX4_plan_104 : decode cX4_plan 104 = .ok (.putfield 15, 3) := by decide +kernel
theorem dX4_plan_107 : decode cX4_plan 107 = .ok (.return_, 1) := by decide +kernel
theorem dX4_firstOpen_0 : decode cX4_firstOpen 0 = .ok (.iconst 0, 1) := by decide +kernel
theorem dX4_firstOpen_1 : decode cX4_firstOpen 1 = .ok (.istore_n 3, 1) := by decide +kernel
theorem dX4_firstOpen_2 : decode cX4_firstOpen 2 = .ok (.iload_n 3, 1) := by decide +kernel
theorem dX4_firstOpen_3 : decode cX4_firstOpen 3 = .ok (.bipush 10, 2) := by decide +kernel
theorem dX4_firstOpen_5 : decode cX4_firstOpen 5 = .ok (.if_icmp .ge 42, 3) := by decide +kernel
theorem dX4_firstOpen_8 : decode cX4_firstOpen 8 = .ok (.iload_n 2, 1) := by decide +kernel
theorem dX4_firstOpen_9 : decode cX4_firstOpen 9 = .ok (.iconst 1, 1) := by decide +kernel
theorem dX4_firstOpen_10 : decode cX4_firstOpen 10 = .ok (.iload_n 3, 1) := by decide +kernel
theorem dX4_firstOpen_11 : decode cX4_firstOpen 11 = .ok (.ishl, 1) := by decide +kernel
theorem dX4_firstOpen_12 : decode cX4_firstOpen 12 = .ok (.ior, 1) := by decide +kernel
theorem dX4_firstOpen_13 : decode cX4_firstOpen 13 = .ok (.istore 4, 2) := by decide +kernel
theorem dX4_firstOpen_15 : decode cX4_firstOpen 15 = .ok (.iload_n 1, 1) := by decide +kernel
theorem dX4_firstOpen_16 : decode cX4_firstOpen 16 = .ok (.iload_n 3, 1) := by decide +kernel
theorem dX4_firstOpen_17 : decode cX4_firstOpen 17 = .ok (.ishr, 1) := by decide +kernel
theorem dX4_firstOpen_18 : decode cX4_firstOpen 18 = .ok (.iconst 1, 1) := by decide +kernel
theorem dX4_firstOpen_19 : decode cX4_firstOpen 19 = .ok (.iand, 1) := by decide +kernel
theorem dX4_firstOpen_20 : decode cX4_firstOpen 20 = .ok (.ifCond .eq 21, 3) := by decide +kernel
theorem dX4_firstOpen_23 : decode cX4_firstOpen 23 = .ok (.iload 4, 2) := by decide +kernel
theorem dX4_firstOpen_25 : decode cX4_firstOpen 25 = .ok (.iload_n 2, 1) := by decide +kernel
theorem dX4_firstOpen_26 : decode cX4_firstOpen 26 = .ok (.if_icmp .eq 15, 3) := by decide +kernel
theorem dX4_firstOpen_29 : decode cX4_firstOpen 29 = .ok (.aload_n 0, 1) := by decide +kernel
theorem dX4_firstOpen_30 : decode cX4_firstOpen 30 = .ok (.iload 4, 2) := by decide +kernel
theorem dX4_firstOpen_32 : decode cX4_firstOpen 32 = .ok (.invokevirtual 25, 3) := by decide +kernel
theorem dX4_firstOpen_35 : decode cX4_firstOpen 35 = .ok (.iconst (-1), 1) := by decide +kernel
theorem dX4_firstOpen_36 : decode cX4_firstOpen 36 = .ok (.if_icmp .ne 5, 3) := by decide +kernel
theorem dX4_firstOpen_39 : decode cX4_firstOpen 39 = .ok (.iload_n 3, 1) := by decide +kernel
theorem dX4_firstOpen_40 : decode cX4_firstOpen 40 = .ok (.ireturn, 1) := by decide +kernel
theorem dX4_firstOpen_41 : decode cX4_firstOpen 41 = .ok (.iinc 3 1, 3) := by decide +kernel
theorem dX4_firstOpen_44 : decode cX4_firstOpen 44 = .ok (.goto (-42), 3) := by decide +kernel
theorem dX4_firstOpen_47 : decode cX4_firstOpen 47 = .ok (.iconst (-1), 1) := by decide +kernel
theorem dX4_firstOpen_48 : decode cX4_firstOpen 48 = .ok (.ireturn, 1) := by decide +kernel
theorem dX5_init_0 : decode cX5_init 0 = .ok (.aload_n 0, 1) := by decide +kernel
theorem dX5_init_1 : decode cX5_init 1 = .ok (.invokespecial 3, 3) := by decide +kernel
theorem dX5_init_4 : decode cX5_init 4 = .ok (.aload_n 0, 1) := by decide +kernel
theorem dX5_init_5 : decode cX5_init 5 = .ok (.bipush 12, 2) := by decide +kernel
theorem dX5_init_7 : decode cX5_init 7 = .ok (.newarray .int, 2) := by decide +kernel
theorem dX5_init_9 : decode cX5_init 9 = .ok (.putfield 9, 3) := by decide +kernel
theorem dX5_init_12 : decode cX5_init 12 = .ok (.aload_n 0, 1) := by decide +kernel
theorem dX5_init_13 : decode cX5_init 13 = .ok (.iconst 0, 1) := by decide +kernel
theorem dX5_init_14 : decode cX5_init 14 = .ok (.putfield 15, 3) := by decide +kernel
theorem dX5_init_17 : decode cX5_init 17 = .ok (.return_, 1) := by decide +kernel
theorem dX5_add_0 : decode cX5_add 0 = .ok (.aload_n 0, 1) := by decide +kernel
theorem dX5_add_1 : decode cX5_add 1 = .ok (.getfield 15, 3) := by decide +kernel
theorem dX5_add_4 : decode cX5_add 4 = .ok (.bipush 12, 2) := by decide +kernel
theorem dX5_add_6 : decode cX5_add 6 = .ok (.if_icmp .lt 5, 3) := by decide +kernel
theorem dX5_add_9 : decode cX5_add 9 = .ok (.iconst (-1), 1) := by decide +kernel
theorem dX5_add_10 : decode cX5_add 10 = .ok (.ireturn, 1) := by decide +kernel
theorem dX5_add_11 : decode cX5_add 11 = .ok (.aload_n 0, 1) := by decide +kernel
theorem dX5_add_12 : decode cX5_add 12 = .ok (.getfield 9, 3) := by decide +kernel
theorem dX5_add_15 : decode cX5_add 15 = .ok (.aload_n 0, 1) := by decide +kernel
theorem dX5_add_16 : decode cX5_add 16 = .ok (.getfield 15, 3) := by decide +kernel
theorem dX5_add_19 : decode cX5_add 19 = .ok (.iload_n 1, 1) := by decide +kernel
theorem dX5_add_20 : decode cX5_add 20 = .ok (.iastore, 1) := by decide +kernel
theorem dX5_add_21 : decode cX5_add 21 = .ok (.aload_n 0, 1) := by decide +kernel
theorem dX5_add_22 : decode cX5_add 22 = .ok (.dup, 1) := by decide +kernel
theorem dX5_add_23 : decode cX5_add 23 = .ok (.getfield 15, 3) := by decide +kernel
theorem dX5_add_26 : decode cX5_add 26 = .ok (.iconst 1, 1) := by decide +kernel
theorem dX5_add_27 : decode cX5_add 27 = .ok (.iadd, 1) := by decide +kernel
theorem dX5_add_28 : decode cX5_add 28 = .ok (.putfield 15, 3) := by decide +kernel
theorem dX5_add_31 : decode cX5_add 31 = .ok (.aload_n 0, 1) := by decide +kernel
theorem dX5_add_32 : decode cX5_add 32 = .ok (.getfield 15, 3) := by decide +kernel
theorem dX5_add_35 : decode cX5_add 35 = .ok (.iconst 1, 1) := by decide +kernel
theorem dX5_add_36 : decode cX5_add 36 = .ok (.isub, 1) := by decide +kernel
theorem dX5_add_37 : decode cX5_add 37 = .ok (.ireturn, 1) := by decide +kernel
theorem dX5_firstRed_0 : decode cX5_firstRed 0 = .ok (.iconst 0, 1) := by decide +kernel
theorem dX5_firstRed_1 : decode cX5_firstRed 1 = .ok (.istore_n 2, 1) := by decide +kernel
theorem dX5_firstRed_2 : decode cX5_firstRed 2 = .ok (.iload_n 2, 1) := by decide +kernel
theorem dX5_firstRed_3 : decode cX5_firstRed 3 = .ok (.aload_n 0, 1) := by decide +kernel
theorem dX5_firstRed_4 : decode cX5_firstRed 4 = .ok (.getfield 15, 3) := by decide +kernel
theorem dX5_firstRed_7 : decode cX5_firstRed 7 = .ok (.if_icmp .ge 24, 3) := by decide +kernel
theorem dX5_firstRed_10 : decode cX5_firstRed 10 = .ok (.aload_n 0, 1) := by decide +kernel
theorem dX5_firstRed_11 : decode cX5_firstRed 11 = .ok (.getfield 9, 3) := by decide +kernel
theorem dX5_firstRed_14 : decode cX5_firstRed 14 = .ok (.iload_n 2, 1) := by decide +kernel
theorem dX5_firstRed_15 : decode cX5_firstRed 15 = .ok (.iaload, 1) := by decide +kernel
theorem dX5_firstRed_16 : decode cX5_firstRed 16 = .ok (.iload_n 1, 1) := by decide +kernel
theorem dX5_firstRed_17 : decode cX5_firstRed 17 = .ok (.iconst (-1), 1) := by decide +kernel
theorem dX5_firstRed_18 : decode cX5_firstRed 18 = .ok (.ixor, 1) := by decide +kernel
theorem dX5_firstRed_19 : decode cX5_firstRed 19 = .ok (.iand, 1) := by decide +kernel
theorem dX5_firstRed_20 : decode cX5_firstRed 20 = .ok (.ifCond .ne 5, 3) := by decide +kernel
theorem dX5_firstRed_23 : decode cX5_firstRed 23 = .ok (.iload_n 2, 1) := by decide +kernel
theorem dX5_firstRed_24 : decode cX5_firstRed 24 = .ok (.ireturn, 1) := by decide +kernel
theorem dX5_firstRed_25 : decode cX5_firstRed 25 = .ok (.iinc 2 1, 3) := by decide +kernel
theorem dX5_firstRed_28 : decode cX5_firstRed 28 = .ok (.goto (-26), 3) := by decide +kernel
theorem dX5_firstRed_31 : decode cX5_firstRed 31 = .ok (.iconst (-1), 1) := by decide +kernel
theorem dX5_firstRed_32 : decode cX5_firstRed 32 = .ok (.ireturn, 1) := by decide +kernel
theorem dX6_init_0 : decode cX6_init 0 = .ok (.aload_n 0, 1) := by decide +kernel
theorem dX6_init_1 : decode cX6_init 1 = .ok (.invokespecial 1, 3) := by decide +kernel
theorem dX6_init_4 : decode cX6_init 4 = .ok (.aload_n 0, 1) := by decide +kernel
theorem dX6_init_5 : decode cX6_init 5 = .ok (.aload_n 1, 1) := by decide +kernel
theorem dX6_init_6 : decode cX6_init 6 = .ok (.putfield 7, 3) := by decide +kernel
theorem dX6_init_9 : decode cX6_init 9 = .ok (.aload_n 0, 1) := by decide +kernel
theorem dX6_init_10 : decode cX6_init 10 = .ok (.aload_n 2, 1) := by decide +kernel
theorem dX6_init_11 : decode cX6_init 11 = .ok (.putfield 13, 3) := by decide +kernel
theorem dX6_init_14 : decode cX6_init 14 = .ok (.aload_n 0, 1) := by decide +kernel
theorem dX6_init_15 : decode cX6_init 15 = .ok (.iload_n 3, 1) := by decide +kernel
theorem dX6_init_16 : decode cX6_init 16 = .ok (.putfield 16, 3) := by decide +kernel
theorem dX6_init_19 : decode cX6_init 19 = .ok (.aload_n 0, 1) := by decide +kernel
theorem dX6_init_20 : decode cX6_init 20 = .ok (.iconst 0, 1) := by decide +kernel
theorem dX6_init_21 : decode cX6_init 21 = .ok (.putfield 20, 3) := by decide +kernel
theorem dX6_init_24 : decode cX6_init 24 = .ok (.return_, 1) := by decide +kernel
end
section
theorem dJ6_lowestOneBit_0f7a4_0 : decode cJ6_lowestOneBit_0f7a4 0 = .ok (.iload_n 0, 1) := by decide +kernel
theorem dJ6_lowestOneBit_0f7a4_1 : decode cJ6_lowestOneBit_0f7a4 1 = .ok (.iload_n 0, 1) := by decide +kernel
theorem dJ6_lowestOneBit_0f7a4_2 : decode cJ6_lowestOneBit_0f7a4 2 = .ok (.ineg, 1) := by decide +kernel
theorem dJ6_lowestOneBit_0f7a4_3 : decode cJ6_lowestOneBit_0f7a4 3 = .ok (.iand, 1) := by decide +kernel
theorem dJ6_lowestOneBit_0f7a4_4 : decode cJ6_lowestOneBit_0f7a4 4 = .ok (.ireturn, 1) := by decide +kernel
theorem dJ6_bitCount_0f7a4_0 : decode cJ6_bitCount_0f7a4 0 = .ok (.iload_n 0, 1) := by decide +kernel
theorem dJ6_bitCount_0f7a4_1 : decode cJ6_bitCount_0f7a4 1 = .ok (.iload_n 0, 1) := by decide +kernel
theorem dJ6_bitCount_0f7a4_2 : decode cJ6_bitCount_0f7a4 2 = .ok (.iconst 1, 1) := by decide +kernel
theorem dJ6_bitCount_0f7a4_3 : decode cJ6_bitCount_0f7a4 3 = .ok (.iushr, 1) := by decide +kernel
theorem dJ6_bitCount_0f7a4_4 : decode cJ6_bitCount_0f7a4 4 = .ok (.ldc_w 265, 3) := by decide +kernel
theorem dJ6_bitCount_0f7a4_7 : decode cJ6_bitCount_0f7a4 7 = .ok (.iand, 1) := by decide +kernel
theorem dJ6_bitCount_0f7a4_8 : decode cJ6_bitCount_0f7a4 8 = .ok (.isub, 1) := by decide +kernel
theorem dJ6_bitCount_0f7a4_9 : decode cJ6_bitCount_0f7a4 9 = .ok (.istore_n 0, 1) := by decide +kernel
theorem dJ6_bitCount_0f7a4_10 : decode cJ6_bitCount_0f7a4 10 = .ok (.iload_n 0, 1) := by decide +kernel
theorem dJ6_bitCount_0f7a4_11 : decode cJ6_bitCount_0f7a4 11 = .ok (.ldc_w 266, 3) := by decide +kernel
theorem dJ6_bitCount_0f7a4_14 : decode cJ6_bitCount_0f7a4 14 = .ok (.iand, 1) := by decide +kernel
theorem dJ6_bitCount_0f7a4_15 : decode cJ6_bitCount_0f7a4 15 = .ok (.iload_n 0, 1) := by decide +kernel
theorem dJ6_bitCount_0f7a4_16 : decode cJ6_bitCount_0f7a4 16 = .ok (.iconst 2, 1) := by decide +kernel
theorem dJ6_bitCount_0f7a4_17 : decode cJ6_bitCount_0f7a4 17 = .ok (.iushr, 1) := by decide +kernel
theorem dJ6_bitCount_0f7a4_18 : decode cJ6_bitCount_0f7a4 18 = .ok (.ldc_w 266, 3) := by decide +kernel
theorem dJ6_bitCount_0f7a4_21 : decode cJ6_bitCount_0f7a4 21 = .ok (.iand, 1) := by decide +kernel
theorem dJ6_bitCount_0f7a4_22 : decode cJ6_bitCount_0f7a4 22 = .ok (.iadd, 1) := by decide +kernel
theorem dJ6_bitCount_0f7a4_23 : decode cJ6_bitCount_0f7a4 23 = .ok (.istore_n 0, 1) := by decide +kernel
theorem dJ6_bitCount_0f7a4_24 : decode cJ6_bitCount_0f7a4 24 = .ok (.iload_n 0, 1) := by decide +kernel
theorem dJ6_bitCount_0f7a4_25 : decode cJ6_bitCount_0f7a4 25 = .ok (.iload_n 0, 1) := by decide +kernel
theorem dJ6_bitCount_0f7a4_26 : decode cJ6_bitCount_0f7a4 26 = .ok (.iconst 4, 1) := by decide +kernel
theorem dJ6_bitCount_0f7a4_27 : decode cJ6_bitCount_0f7a4 27 = .ok (.iushr, 1) := by decide +kernel
theorem dJ6_bitCount_0f7a4_28 : decode cJ6_bitCount_0f7a4 28 = .ok (.iadd, 1) := by decide +kernel
theorem dJ6_bitCount_0f7a4_29 : decode cJ6_bitCount_0f7a4 29 = .ok (.ldc_w 267, 3) := by decide +kernel
theorem dJ6_bitCount_0f7a4_32 : decode cJ6_bitCount_0f7a4 32 = .ok (.iand, 1) := by decide +kernel
theorem dJ6_bitCount_0f7a4_33 : decode cJ6_bitCount_0f7a4 33 = .ok (.istore_n 0, 1) := by decide +kernel
theorem dJ6_bitCount_0f7a4_34 : decode cJ6_bitCount_0f7a4 34 = .ok (.iload_n 0, 1) := by decide +kernel
theorem dJ6_bitCount_0f7a4_35 : decode cJ6_bitCount_0f7a4 35 = .ok (.iload_n 0, 1) := by decide +kernel
theorem dJ6_bitCount_0f7a4_36 : decode cJ6_bitCount_0f7a4 36 = .ok (.bipush 8, 2) := by decide +kernel
theorem dJ6_bitCount_0f7a4_38 : decode cJ6_bitCount_0f7a4 38 = .ok (.iushr, 1) := by decide +kernel
theorem dJ6_bitCount_0f7a4_39 : decode cJ6_bitCount_0f7a4 39 = .ok (.iadd, 1) := by decide +kernel
theorem dJ6_bitCount_0f7a4_40 : decode cJ6_bitCount_0f7a4 40 = .ok (.istore_n 0, 1) := by decide +kernel
theorem dJ6_bitCount_0f7a4_41 : decode cJ6_bitCount_0f7a4 41 = .ok (.iload_n 0, 1) := by decide +kernel
theorem dJ6_bitCount_0f7a4_42 : decode cJ6_bitCount_0f7a4 42 = .ok (.iload_n 0, 1) := by decide +kernel
theorem dJ6_bitCount_0f7a4_43 : decode cJ6_bitCount_0f7a4 43 = .ok (.bipush 16, 2) := by decide +kernel
theorem dJ6_bitCount_0f7a4_45 : decode cJ6_bitCount_0f7a4 45 = .ok (.iushr, 1) := by decide +kernel
theorem dJ6_bitCount_0f7a4_46 : decode cJ6_bitCount_0f7a4 46 = .ok (.iadd, 1) := by decide +kernel
theorem dJ6_bitCount_0f7a4_47 : decode cJ6_bitCount_0f7a4 47 = .ok (.istore_n 0, 1) := by decide +kernel
theorem dJ6_bitCount_0f7a4_48 : decode cJ6_bitCount_0f7a4 48 = .ok (.iload_n 0, 1) := by decide +kernel
theorem dJ6_bitCount_0f7a4_49 : decode cJ6_bitCount_0f7a4 49 = .ok (.bipush 63, 2) := by decide +kernel
theorem dJ6_bitCount_0f7a4_51 : decode cJ6_bitCount_0f7a4 51 = .ok (.iand, 1) := by decide +kernel
theorem dJ6_bitCount_0f7a4_52 : decode cJ6_bitCount_0f7a4 52 = .ok (.ireturn, 1) := by decide +kernel
theorem dJ9_max_7cf53_0 : decode cJ9_max_7cf53 0 = .ok (.iload_n 0, 1) := by decide +kernel
theorem dJ9_max_7cf53_1 : decode cJ9_max_7cf53 1 = .ok (.iload_n 1, 1) := by decide +kernel
theorem dJ9_max_7cf53_2 : decode cJ9_max_7cf53 2 = .ok (.if_icmp .lt 7, 3) := by decide +kernel
theorem dJ9_max_7cf53_5 : decode cJ9_max_7cf53 5 = .ok (.iload_n 0, 1) := by decide +kernel
theorem dJ9_max_7cf53_6 : decode cJ9_max_7cf53 6 = .ok (.goto 4, 3) := by decide +kernel
theorem dJ9_max_7cf53_9 : decode cJ9_max_7cf53 9 = .ok (.iload_n 1, 1) := by decide +kernel
theorem dJ9_max_7cf53_10 : decode cJ9_max_7cf53 10 = .ok (.ireturn, 1) := by decide +kernel
theorem dJ9_min_7cf53_0 : decode cJ9_min_7cf53 0 = .ok (.iload_n 0, 1) := by decide +kernel
theorem dJ9_min_7cf53_1 : decode cJ9_min_7cf53 1 = .ok (.iload_n 1, 1) := by decide +kernel
theorem dJ9_min_7cf53_2 : decode cJ9_min_7cf53 2 = .ok (.if_icmp .gt 7, 3) := by decide +kernel
theorem dJ9_min_7cf53_5 : decode cJ9_min_7cf53 5 = .ok (.iload_n 0, 1) := by decide +kernel
theorem dJ9_min_7cf53_6 : decode cJ9_min_7cf53 6 = .ok (.goto 4, 3) := by decide +kernel
theorem dJ9_min_7cf53_9 : decode cJ9_min_7cf53 9 = .ok (.iload_n 1, 1) := by decide +kernel
theorem dJ9_min_7cf53_10 : decode cJ9_min_7cf53 10 = .ok (.ireturn, 1) := by decide +kernel
theorem dJxa1e45_init_da8c8_0 : decode cJxa1e45_init_da8c8 0 = .ok (.aload_n 0, 1) := by decide +kernel
theorem dJxa1e45_init_da8c8_1 : decode cJxa1e45_init_da8c8 1 = .ok (.invokespecial 1, 3) := by decide +kernel
theorem dJxa1e45_init_da8c8_4 : decode cJxa1e45_init_da8c8 4 = .ok (.return_, 1) := by decide +kernel
theorem dJxc12de_init_da8c8_0 : decode cJxc12de_init_da8c8 0 = .ok (.aload_n 0, 1) := by decide +kernel
theorem dJxc12de_init_da8c8_1 : decode cJxc12de_init_da8c8 1 = .ok (.invokespecial 1, 3) := by decide +kernel
theorem dJxc12de_init_da8c8_4 : decode cJxc12de_init_da8c8 4 = .ok (.aload_n 0, 1) := by decide +kernel
theorem dJxc12de_init_da8c8_5 : decode cJxc12de_init_da8c8 5 = .ok (.iconst 0, 1) := by decide +kernel
theorem dJxc12de_init_da8c8_6 : decode cJxc12de_init_da8c8 6 = .ok (.putfield 7, 3) := by decide +kernel
theorem dJxc12de_init_da8c8_9 : decode cJxc12de_init_da8c8 9 = .ok (.return_, 1) := by decide +kernel
theorem dJx4a65c_init_da8c8_0 : decode cJx4a65c_init_da8c8 0 = .ok (.aload_n 0, 1) := by decide +kernel
theorem dJx4a65c_init_da8c8_1 : decode cJx4a65c_init_da8c8 1 = .ok (.invokespecial 1, 3) := by decide +kernel
theorem dJx4a65c_init_da8c8_4 : decode cJx4a65c_init_da8c8 4 = .ok (.aload_n 0, 1) := by decide +kernel
theorem dJx4a65c_init_da8c8_5 : decode cJx4a65c_init_da8c8 5 = .ok (.getstatic 39, 3) := by decide +kernel
theorem dJx4a65c_init_da8c8_8 : decode cJx4a65c_init_da8c8 8 = .ok (.putfield 9, 3) := by decide +kernel
theorem dJx4a65c_init_da8c8_11 : decode cJx4a65c_init_da8c8 11 = .ok (.return_, 1) := by decide +kernel
theorem dJx4a65c_grow_92f84_0 : decode cJx4a65c_grow_92f84 0 = .ok (.aload_n 0, 1) := by decide +kernel
theorem dJx4a65c_grow_92f84_1 : decode cJx4a65c_grow_92f84 1 = .ok (.getfield 9, 3) := by decide +kernel
theorem dJx4a65c_grow_92f84_4 : decode cJx4a65c_grow_92f84 4 = .ok (.arraylength, 1) := by decide +kernel
theorem dJx4a65c_grow_92f84_5 : decode cJx4a65c_grow_92f84 5 = .ok (.istore_n 2, 1) := by decide +kernel
theorem dJx4a65c_grow_92f84_6 : decode cJx4a65c_grow_92f84 6 = .ok (.iload_n 2, 1) := by decide +kernel
theorem dJx4a65c_grow_92f84_7 : decode cJx4a65c_grow_92f84 7 = .ok (.ifCond .gt 13, 3) := by decide +kernel
theorem dJx4a65c_grow_92f84_10 : decode cJx4a65c_grow_92f84 10 = .ok (.aload_n 0, 1) := by decide +kernel
theorem dJx4a65c_grow_92f84_11 : decode cJx4a65c_grow_92f84 11 = .ok (.getfield 9, 3) := by decide +kernel
theorem dJx4a65c_grow_92f84_14 : decode cJx4a65c_grow_92f84 14 = .ok (.getstatic 39, 3) := by decide +kernel
theorem dJx4a65c_grow_92f84_17 : decode cJx4a65c_grow_92f84 17 = .ok (.if_acmp .eq 28, 3) := by decide +kernel
theorem dJx4a65c_grow_92f84_20 : decode cJx4a65c_grow_92f84 20 = .ok (.iload_n 2, 1) := by decide +kernel
theorem dJx4a65c_grow_92f84_21 : decode cJx4a65c_grow_92f84 21 = .ok (.iload_n 1, 1) := by decide +kernel
theorem dJx4a65c_grow_92f84_22 : decode cJx4a65c_grow_92f84 22 = .ok (.iload_n 2, 1) := by decide +kernel
theorem dJx4a65c_grow_92f84_23 : decode cJx4a65c_grow_92f84 23 = .ok (.isub, 1) := by decide +kernel
theorem dJx4a65c_grow_92f84_24 : decode cJx4a65c_grow_92f84 24 = .ok (.iload_n 2, 1) := by decide +kernel
theorem dJx4a65c_grow_92f84_25 : decode cJx4a65c_grow_92f84 25 = .ok (.iconst 1, 1) := by decide +kernel
theorem dJx4a65c_grow_92f84_26 : decode cJx4a65c_grow_92f84 26 = .ok (.ishr, 1) := by decide +kernel
theorem dJx4a65c_grow_92f84_27 : decode cJx4a65c_grow_92f84 27 = .ok (.invokestatic 73, 3) := by decide +kernel
theorem dJx4a65c_grow_92f84_30 : decode cJx4a65c_grow_92f84 30 = .ok (.istore_n 3, 1) := by decide +kernel
theorem dJx4a65c_grow_92f84_31 : decode cJx4a65c_grow_92f84 31 = .ok (.aload_n 0, 1) := by decide +kernel
theorem dJx4a65c_grow_92f84_32 : decode cJx4a65c_grow_92f84 32 = .ok (.aload_n 0, 1) := by decide +kernel
theorem dJx4a65c_grow_92f84_33 : decode cJx4a65c_grow_92f84 33 = .ok (.getfield 9, 3) := by decide +kernel
theorem dJx4a65c_grow_92f84_36 : decode cJx4a65c_grow_92f84 36 = .ok (.iload_n 3, 1) := by decide +kernel
theorem dJx4a65c_grow_92f84_37 : decode cJx4a65c_grow_92f84 37 = .ok (.invokestatic 66, 3) := by decide +kernel
theorem dJx4a65c_grow_92f84_40 : decode cJx4a65c_grow_92f84 40 = .ok (.dup_x1, 1) := by decide +kernel
theorem dJx4a65c_grow_92f84_41 : decode cJx4a65c_grow_92f84 41 = .ok (.putfield 9, 3) := by decide +kernel
theorem dJx4a65c_grow_92f84_44 : decode cJx4a65c_grow_92f84 44 = .ok (.areturn, 1) := by decide +kernel
theorem dJx4a65c_grow_92f84_45 : decode cJx4a65c_grow_92f84 45 = .ok (.aload_n 0, 1) := by decide +kernel
theorem dJx4a65c_grow_92f84_46 : decode cJx4a65c_grow_92f84 46 = .ok (.bipush 10, 2) := by decide +kernel
theorem dJx4a65c_grow_92f84_48 : decode cJx4a65c_grow_92f84 48 = .ok (.iload_n 1, 1) := by decide +kernel
theorem dJx4a65c_grow_92f84_49 : decode cJx4a65c_grow_92f84 49 = .ok (.invokestatic 79, 3) := by decide +kernel
theorem dJx4a65c_grow_92f84_52 : decode cJx4a65c_grow_92f84 52 = .ok (.anewarray 7, 3) := by decide +kernel
theorem dJx4a65c_grow_92f84_55 : decode cJx4a65c_grow_92f84 55 = .ok (.dup_x1, 1) := by decide +kernel
theorem dJx4a65c_grow_92f84_56 : decode cJx4a65c_grow_92f84 56 = .ok (.putfield 9, 3) := by decide +kernel
theorem dJx4a65c_grow_92f84_59 : decode cJx4a65c_grow_92f84 59 = .ok (.areturn, 1) := by decide +kernel
theorem dJx4a65c_grow_d5877_0 : decode cJx4a65c_grow_d5877 0 = .ok (.aload_n 0, 1) := by decide +kernel
theorem dJx4a65c_grow_d5877_1 : decode cJx4a65c_grow_d5877 1 = .ok (.aload_n 0, 1) := by decide +kernel
theorem dJx4a65c_grow_d5877_2 : decode cJx4a65c_grow_d5877 2 = .ok (.getfield 48, 3) := by decide +kernel
theorem dJx4a65c_grow_d5877_5 : decode cJx4a65c_grow_d5877 5 = .ok (.iconst 1, 1) := by decide +kernel
theorem dJx4a65c_grow_d5877_6 : decode cJx4a65c_grow_d5877 6 = .ok (.iadd, 1) := by decide +kernel
theorem dJx4a65c_grow_d5877_7 : decode cJx4a65c_grow_d5877 7 = .ok (.invokevirtual 69, 3) := by decide +kernel
theorem dJx4a65c_grow_d5877_10 : decode cJx4a65c_grow_d5877 10 = .ok (.areturn, 1) := by decide +kernel
theorem dJx4a65c_size_8abf5_0 : decode cJx4a65c_size_8abf5 0 = .ok (.aload_n 0, 1) := by decide +kernel
theorem dJx4a65c_size_8abf5_1 : decode cJx4a65c_size_8abf5 1 = .ok (.getfield 48, 3) := by decide +kernel
theorem dJx4a65c_size_8abf5_4 : decode cJx4a65c_size_8abf5 4 = .ok (.ireturn, 1) := by decide +kernel
theorem dJx4a65c_elementData_915e3_0 : decode cJx4a65c_elementData_915e3 0 = .ok (.aload_n 0, 1) := by decide +kernel
theorem dJx4a65c_elementData_915e3_1 : decode cJx4a65c_elementData_915e3 1 = .ok (.getfield 9, 3) := by decide +kernel
theorem dJx4a65c_elementData_915e3_4 : decode cJx4a65c_elementData_915e3 4 = .ok (.iload_n 1, 1) := by decide +kernel
theorem dJx4a65c_elementData_915e3_5 : decode cJx4a65c_elementData_915e3 5 = .ok (.aaload, 1) := by decide +kernel
theorem dJx4a65c_elementData_915e3_6 : decode cJx4a65c_elementData_915e3 6 = .ok (.areturn, 1) := by decide +kernel
theorem dJx4a65c_get_915e3_0 : decode cJx4a65c_get_915e3 0 = .ok (.iload_n 1, 1) := by decide +kernel
theorem dJx4a65c_get_915e3_1 : decode cJx4a65c_get_915e3 1 = .ok (.aload_n 0, 1) := by decide +kernel
theorem dJx4a65c_get_915e3_2 : decode cJx4a65c_get_915e3 2 = .ok (.getfield 48, 3) := by decide +kernel
theorem dJx4a65c_get_915e3_5 : decode cJx4a65c_get_915e3 5 = .ok (.invokestatic 118, 3) := by decide +kernel
theorem dJx4a65c_get_915e3_8 : decode cJx4a65c_get_915e3 8 = .ok (.pop, 1) := by decide +kernel
theorem dJx4a65c_get_915e3_9 : decode cJx4a65c_get_915e3 9 = .ok (.aload_n 0, 1) := by decide +kernel
theorem dJx4a65c_get_915e3_10 : decode cJx4a65c_get_915e3 10 = .ok (.iload_n 1, 1) := by decide +kernel
theorem dJx4a65c_get_915e3_11 : decode cJx4a65c_get_915e3 11 = .ok (.invokevirtual 123, 3) := by decide +kernel
theorem dJx4a65c_get_915e3_14 : decode cJx4a65c_get_915e3 14 = .ok (.areturn, 1) := by decide +kernel
theorem dJx4a65c_add_72be8_0 : decode cJx4a65c_add_72be8 0 = .ok (.iload_n 3, 1) := by decide +kernel
theorem dJx4a65c_add_72be8_1 : decode cJx4a65c_add_72be8 1 = .ok (.aload_n 2, 1) := by decide +kernel
theorem dJx4a65c_add_72be8_2 : decode cJx4a65c_add_72be8 2 = .ok (.arraylength, 1) := by decide +kernel
theorem dJx4a65c_add_72be8_3 : decode cJx4a65c_add_72be8 3 = .ok (.if_icmp .ne 8, 3) := by decide +kernel
theorem dJx4a65c_add_72be8_6 : decode cJx4a65c_add_72be8 6 = .ok (.aload_n 0, 1) := by decide +kernel
theorem dJx4a65c_add_72be8_7 : decode cJx4a65c_add_72be8 7 = .ok (.invokevirtual 129, 3) := by decide +kernel
theorem dJx4a65c_add_72be8_10 : decode cJx4a65c_add_72be8 10 = .ok (.astore_n 2, 1) := by decide +kernel
theorem dJx4a65c_add_72be8_11 : decode cJx4a65c_add_72be8 11 = .ok (.aload_n 2, 1) := by decide +kernel
theorem dJx4a65c_add_72be8_12 : decode cJx4a65c_add_72be8 12 = .ok (.iload_n 3, 1) := by decide +kernel
theorem dJx4a65c_add_72be8_13 : decode cJx4a65c_add_72be8 13 = .ok (.aload_n 1, 1) := by decide +kernel
theorem dJx4a65c_add_72be8_14 : decode cJx4a65c_add_72be8 14 = .ok (.aastore, 1) := by decide +kernel
theorem dJx4a65c_add_72be8_15 : decode cJx4a65c_add_72be8 15 = .ok (.aload_n 0, 1) := by decide +kernel
theorem dJx4a65c_add_72be8_16 : decode cJx4a65c_add_72be8 16 = .ok (.iload_n 3, 1) := by decide +kernel
theorem dJx4a65c_add_72be8_17 : decode cJx4a65c_add_72be8 17 = .ok (.iconst 1, 1) := by decide +kernel
theorem dJx4a65c_add_72be8_18 : decode cJx4a65c_add_72be8 18 = .ok (.iadd, 1) := by decide +kernel
theorem dJx4a65c_add_72be8_19 : decode cJx4a65c_add_72be8 19 = .ok (.putfield 48, 3) := by decide +kernel
theorem dJx4a65c_add_72be8_22 : decode cJx4a65c_add_72be8 22 = .ok (.return_, 1) := by decide +kernel
theorem dJx4a65c_add_9ea2d_0 : decode cJx4a65c_add_9ea2d 0 = .ok (.aload_n 0, 1) := by decide +kernel
theorem dJx4a65c_add_9ea2d_1 : decode cJx4a65c_add_9ea2d 1 = .ok (.dup, 1) := by decide +kernel
theorem dJx4a65c_add_9ea2d_2 : decode cJx4a65c_add_9ea2d 2 = .ok (.getfield 63, 3) := by decide +kernel
theorem dJx4a65c_add_9ea2d_5 : decode cJx4a65c_add_9ea2d 5 = .ok (.iconst 1, 1) := by decide +kernel
theorem dJx4a65c_add_9ea2d_6 : decode cJx4a65c_add_9ea2d 6 = .ok (.iadd, 1) := by decide +kernel
theorem dJx4a65c_add_9ea2d_7 : decode cJx4a65c_add_9ea2d 7 = .ok (.putfield 63, 3) := by decide +kernel
theorem dJx4a65c_add_9ea2d_10 : decode cJx4a65c_add_9ea2d 10 = .ok (.aload_n 0, 1) := by decide +kernel
theorem dJx4a65c_add_9ea2d_11 : decode cJx4a65c_add_9ea2d 11 = .ok (.aload_n 1, 1) := by decide +kernel
theorem dJx4a65c_add_9ea2d_12 : decode cJx4a65c_add_9ea2d 12 = .ok (.aload_n 0, 1) := by decide +kernel
theorem dJx4a65c_add_9ea2d_13 : decode cJx4a65c_add_9ea2d 13 = .ok (.getfield 9, 3) := by decide +kernel
theorem dJx4a65c_add_9ea2d_16 : decode cJx4a65c_add_9ea2d 16 = .ok (.aload_n 0, 1) := by decide +kernel
theorem dJx4a65c_add_9ea2d_17 : decode cJx4a65c_add_9ea2d 17 = .ok (.getfield 48, 3) := by decide +kernel
theorem dJx4a65c_add_9ea2d_20 : decode cJx4a65c_add_9ea2d 20 = .ok (.invokevirtual 131, 3) := by decide +kernel
theorem dJx4a65c_add_9ea2d_23 : decode cJx4a65c_add_9ea2d 23 = .ok (.iconst 1, 1) := by decide +kernel
theorem dJx4a65c_add_9ea2d_24 : decode cJx4a65c_add_9ea2d 24 = .ok (.ireturn, 1) := by decide +kernel
theorem dJ7_fill_53178_0 : decode cJ7_fill_53178 0 = .ok (.iconst 0, 1) := by decide +kernel
theorem dJ7_fill_53178_1 : decode cJ7_fill_53178 1 = .ok (.istore_n 2, 1) := by decide +kernel
theorem dJ7_fill_53178_2 : decode cJ7_fill_53178 2 = .ok (.aload_n 0, 1) := by decide +kernel
theorem dJ7_fill_53178_3 : decode cJ7_fill_53178 3 = .ok (.arraylength, 1) := by decide +kernel
theorem dJ7_fill_53178_4 : decode cJ7_fill_53178 4 = .ok (.istore_n 3, 1) := by decide +kernel
theorem dJ7_fill_53178_5 : decode cJ7_fill_53178 5 = .ok (.iload_n 2, 1) := by decide +kernel
theorem dJ7_fill_53178_6 : decode cJ7_fill_53178 6 = .ok (.iload_n 3, 1) := by decide +kernel
theorem dJ7_fill_53178_7 : decode cJ7_fill_53178 7 = .ok (.if_icmp .ge 13, 3) := by decide +kernel
theorem dJ7_fill_53178_10 : decode cJ7_fill_53178 10 = .ok (.aload_n 0, 1) := by decide +kernel
theorem dJ7_fill_53178_11 : decode cJ7_fill_53178 11 = .ok (.iload_n 2, 1) := by decide +kernel
theorem dJ7_fill_53178_12 : decode cJ7_fill_53178 12 = .ok (.iload_n 1, 1) := by decide +kernel
theorem dJ7_fill_53178_13 : decode cJ7_fill_53178 13 = .ok (.iastore, 1) := by decide +kernel
theorem dJ7_fill_53178_14 : decode cJ7_fill_53178 14 = .ok (.iinc 2 1, 3) := by decide +kernel
theorem dJ7_fill_53178_17 : decode cJ7_fill_53178 17 = .ok (.goto (-12), 3) := by decide +kernel
theorem dJ7_fill_53178_20 : decode cJ7_fill_53178 20 = .ok (.return_, 1) := by decide +kernel
theorem dJ7_copyOf_1904c_0 : decode cJ7_copyOf_1904c 0 = .ok (.aload_n 0, 1) := by decide +kernel
theorem dJ7_copyOf_1904c_1 : decode cJ7_copyOf_1904c 1 = .ok (.iload_n 1, 1) := by decide +kernel
theorem dJ7_copyOf_1904c_2 : decode cJ7_copyOf_1904c 2 = .ok (.aload_n 0, 1) := by decide +kernel
theorem dJ7_copyOf_1904c_3 : decode cJ7_copyOf_1904c 3 = .ok (.invokevirtual 86, 3) := by decide +kernel
theorem dJ7_copyOf_1904c_6 : decode cJ7_copyOf_1904c 6 = .ok (.invokestatic 300, 3) := by decide +kernel
theorem dJ7_copyOf_1904c_9 : decode cJ7_copyOf_1904c 9 = .ok (.areturn, 1) := by decide +kernel
theorem dJ7_copyOf_6403c_0 : decode cJ7_copyOf_6403c 0 = .ok (.aload_n 2, 1) := by decide +kernel
theorem dJ7_copyOf_6403c_1 : decode cJ7_copyOf_6403c 1 = .ok (.ldc 110, 2) := by decide +kernel
theorem dJ7_copyOf_6403c_3 : decode cJ7_copyOf_6403c 3 = .ok (.if_acmp .ne 10, 3) := by decide +kernel
theorem dJ7_copyOf_6403c_6 : decode cJ7_copyOf_6403c 6 = .ok (.iload_n 1, 1) := by decide +kernel
theorem dJ7_copyOf_6403c_7 : decode cJ7_copyOf_6403c 7 = .ok (.anewarray 2, 3) := by decide +kernel
theorem dJ7_copyOf_6403c_10 : decode cJ7_copyOf_6403c 10 = .ok (.goto 14, 3) := by decide +kernel
theorem dJ7_copyOf_6403c_13 : decode cJ7_copyOf_6403c 13 = .ok (.aload_n 2, 1) := by decide +kernel
theorem dJ7_copyOf_6403c_14 : decode cJ7_copyOf_6403c 14 = .ok (.invokevirtual 90, 3) := by decide +kernel
theorem dJ7_copyOf_6403c_17 : decode cJ7_copyOf_6403c 17 = .ok (.iload_n 1, 1) := by decide +kernel
theorem dJ7_copyOf_6403c_18 : decode cJ7_copyOf_6403c 18 = .ok (.invokestatic 95, 3) := by decide +kernel
theorem dJ7_copyOf_6403c_21 : decode cJ7_copyOf_6403c 21 = .ok (.checkcast 110, 3) := by decide +kernel
theorem dJ7_copyOf_6403c_24 : decode cJ7_copyOf_6403c 24 = .ok (.astore_n 3, 1) := by decide +kernel
theorem dJ7_copyOf_6403c_25 : decode cJ7_copyOf_6403c 25 = .ok (.aload_n 0, 1) := by decide +kernel
theorem dJ7_copyOf_6403c_26 : decode cJ7_copyOf_6403c 26 = .ok (.iconst 0, 1) := by decide +kernel
theorem dJ7_copyOf_6403c_27 : decode cJ7_copyOf_6403c 27 = .ok (.aload_n 3, 1) := by decide +kernel
theorem dJ7_copyOf_6403c_28 : decode cJ7_copyOf_6403c 28 = .ok (.iconst 0, 1) := by decide +kernel
theorem dJ7_copyOf_6403c_29 : decode cJ7_copyOf_6403c 29 = .ok (.aload_n 0, 1) := by decide +kernel
theorem dJ7_copyOf_6403c_30 : decode cJ7_copyOf_6403c 30 = .ok (.arraylength, 1) := by decide +kernel
theorem dJ7_copyOf_6403c_31 : decode cJ7_copyOf_6403c 31 = .ok (.iload_n 1, 1) := by decide +kernel
theorem dJ7_copyOf_6403c_32 : decode cJ7_copyOf_6403c 32 = .ok (.invokestatic 304, 3) := by decide +kernel
theorem dJ7_copyOf_6403c_35 : decode cJ7_copyOf_6403c 35 = .ok (.invokestatic 150, 3) := by decide +kernel
theorem dJ7_copyOf_6403c_38 : decode cJ7_copyOf_6403c 38 = .ok (.aload_n 3, 1) := by decide +kernel
theorem dJ7_copyOf_6403c_39 : decode cJ7_copyOf_6403c 39 = .ok (.areturn, 1) := by decide +kernel
theorem dJ7_copyOf_59c91_0 : decode cJ7_copyOf_59c91 0 = .ok (.iload_n 1, 1) := by decide +kernel
theorem dJ7_copyOf_59c91_1 : decode cJ7_copyOf_59c91 1 = .ok (.aload_n 0, 1) := by decide +kernel
theorem dJ7_copyOf_59c91_2 : decode cJ7_copyOf_59c91 2 = .ok (.arraylength, 1) := by decide +kernel
theorem dJ7_copyOf_59c91_3 : decode cJ7_copyOf_59c91 3 = .ok (.if_icmp .ne 11, 3) := by decide +kernel
theorem dJ7_copyOf_59c91_6 : decode cJ7_copyOf_59c91 6 = .ok (.aload_n 0, 1) := by decide +kernel
theorem dJ7_copyOf_59c91_7 : decode cJ7_copyOf_59c91 7 = .ok (.invokevirtual 316, 3) := by decide +kernel
theorem dJ7_copyOf_59c91_10 : decode cJ7_copyOf_59c91 10 = .ok (.checkcast 317, 3) := by decide +kernel
theorem dJ7_copyOf_59c91_13 : decode cJ7_copyOf_59c91 13 = .ok (.areturn, 1) := by decide +kernel
theorem dJ7_copyOf_59c91_14 : decode cJ7_copyOf_59c91 14 = .ok (.iload_n 1, 1) := by decide +kernel
theorem dJ7_copyOf_59c91_15 : decode cJ7_copyOf_59c91 15 = .ok (.newarray .int, 2) := by decide +kernel
theorem dJ7_copyOf_59c91_17 : decode cJ7_copyOf_59c91 17 = .ok (.astore_n 2, 1) := by decide +kernel
theorem dJ7_copyOf_59c91_18 : decode cJ7_copyOf_59c91 18 = .ok (.aload_n 0, 1) := by decide +kernel
theorem dJ7_copyOf_59c91_19 : decode cJ7_copyOf_59c91 19 = .ok (.iconst 0, 1) := by decide +kernel
theorem dJ7_copyOf_59c91_20 : decode cJ7_copyOf_59c91 20 = .ok (.aload_n 2, 1) := by decide +kernel
theorem dJ7_copyOf_59c91_21 : decode cJ7_copyOf_59c91 21 = .ok (.iconst 0, 1) := by decide +kernel
theorem dJ7_copyOf_59c91_22 : decode cJ7_copyOf_59c91 22 = .ok (.aload_n 0, 1) := by decide +kernel
theorem dJ7_copyOf_59c91_23 : decode cJ7_copyOf_59c91 23 = .ok (.arraylength, 1) := by decide +kernel
theorem dJ7_copyOf_59c91_24 : decode cJ7_copyOf_59c91 24 = .ok (.iload_n 1, 1) := by decide +kernel
theorem dJ7_copyOf_59c91_25 : decode cJ7_copyOf_59c91 25 = .ok (.invokestatic 304, 3) := by decide +kernel
theorem dJ7_copyOf_59c91_28 : decode cJ7_copyOf_59c91 28 = .ok (.invokestatic 150, 3) := by decide +kernel
theorem dJ7_copyOf_59c91_31 : decode cJ7_copyOf_59c91 31 = .ok (.aload_n 2, 1) := by decide +kernel
theorem dJ7_copyOf_59c91_32 : decode cJ7_copyOf_59c91 32 = .ok (.areturn, 1) := by decide +kernel
theorem dJ15_checkIndex_7cf53_0 : decode cJ15_checkIndex_7cf53 0 = .ok (.iload_n 0, 1) := by decide +kernel
theorem dJ15_checkIndex_7cf53_1 : decode cJ15_checkIndex_7cf53 1 = .ok (.iload_n 1, 1) := by decide +kernel
theorem dJ15_checkIndex_7cf53_2 : decode cJ15_checkIndex_7cf53 2 = .ok (.aconst_null, 1) := by decide +kernel
theorem dJ15_checkIndex_7cf53_3 : decode cJ15_checkIndex_7cf53 3 = .ok (.invokestatic 105, 3) := by decide +kernel
theorem dJ15_checkIndex_7cf53_6 : decode cJ15_checkIndex_7cf53 6 = .ok (.ireturn, 1) := by decide +kernel
theorem dJ8_newLength_cabcc_0 : decode cJ8_newLength_cabcc 0 = .ok (.iload_n 0, 1) := by decide +kernel
theorem dJ8_newLength_cabcc_1 : decode cJ8_newLength_cabcc 1 = .ok (.iload_n 1, 1) := by decide +kernel
theorem dJ8_newLength_cabcc_2 : decode cJ8_newLength_cabcc 2 = .ok (.iload_n 2, 1) := by decide +kernel
theorem dJ8_newLength_cabcc_3 : decode cJ8_newLength_cabcc 3 = .ok (.invokestatic 194, 3) := by decide +kernel
theorem dJ8_newLength_cabcc_6 : decode cJ8_newLength_cabcc 6 = .ok (.iadd, 1) := by decide +kernel
theorem dJ8_newLength_cabcc_7 : decode cJ8_newLength_cabcc 7 = .ok (.istore_n 3, 1) := by decide +kernel
theorem dJ8_newLength_cabcc_8 : decode cJ8_newLength_cabcc 8 = .ok (.iconst 0, 1) := by decide +kernel
theorem dJ8_newLength_cabcc_9 : decode cJ8_newLength_cabcc 9 = .ok (.iload_n 3, 1) := by decide +kernel
theorem dJ8_newLength_cabcc_10 : decode cJ8_newLength_cabcc 10 = .ok (.if_icmp .ge 11, 3) := by decide +kernel
theorem dJ8_newLength_cabcc_13 : decode cJ8_newLength_cabcc 13 = .ok (.iload_n 3, 1) := by decide +kernel
theorem dJ8_newLength_cabcc_14 : decode cJ8_newLength_cabcc 14 = .ok (.ldc 200, 2) := by decide +kernel
theorem dJ8_newLength_cabcc_16 : decode cJ8_newLength_cabcc 16 = .ok (.if_icmp .gt 5, 3) := by decide +kernel
theorem dJ8_newLength_cabcc_19 : decode cJ8_newLength_cabcc 19 = .ok (.iload_n 3, 1) := by decide +kernel
theorem dJ8_newLength_cabcc_20 : decode cJ8_newLength_cabcc 20 = .ok (.ireturn, 1) := by decide +kernel
theorem dJ8_newLength_cabcc_21 : decode cJ8_newLength_cabcc 21 = .ok (.iload_n 0, 1) := by decide +kernel
theorem dJ8_newLength_cabcc_22 : decode cJ8_newLength_cabcc 22 = .ok (.iload_n 1, 1) := by decide +kernel
theorem dJ8_newLength_cabcc_23 : decode cJ8_newLength_cabcc 23 = .ok (.invokestatic 201, 3) := by decide +kernel
theorem dJ8_newLength_cabcc_26 : decode cJ8_newLength_cabcc 26 = .ok (.ireturn, 1) := by decide +kernel
theorem dJ8_hugeLength_7cf53_0 : decode cJ8_hugeLength_7cf53 0 = .ok (.iload_n 0, 1) := by decide +kernel
theorem dJ8_hugeLength_7cf53_1 : decode cJ8_hugeLength_7cf53 1 = .ok (.iload_n 1, 1) := by decide +kernel
theorem dJ8_hugeLength_7cf53_2 : decode cJ8_hugeLength_7cf53 2 = .ok (.iadd, 1) := by decide +kernel
theorem dJ8_hugeLength_7cf53_3 : decode cJ8_hugeLength_7cf53 3 = .ok (.istore_n 2, 1) := by decide +kernel
theorem dJ8_hugeLength_7cf53_4 : decode cJ8_hugeLength_7cf53 4 = .ok (.iload_n 2, 1) := by decide +kernel
theorem dJ8_hugeLength_7cf53_5 : decode cJ8_hugeLength_7cf53 5 = .ok (.ifCond .ge 44, 3) := by decide +kernel
theorem dJ8_hugeLength_7cf53_8 : decode cJ8_hugeLength_7cf53 8 = .ok (.new 204, 3) := by decide +kernel
theorem dJ8_hugeLength_7cf53_11 : decode cJ8_hugeLength_7cf53 11 = .ok (.dup, 1) := by decide +kernel
theorem dJ8_hugeLength_7cf53_12 : decode cJ8_hugeLength_7cf53 12 = .ok (.new 89, 3) := by decide +kernel
theorem dJ8_hugeLength_7cf53_15 : decode cJ8_hugeLength_7cf53 15 = .ok (.dup, 1) := by decide +kernel
theorem dJ8_hugeLength_7cf53_16 : decode cJ8_hugeLength_7cf53 16 = .ok (.invokespecial 91, 3) := by decide +kernel
theorem dJ8_hugeLength_7cf53_19 : decode cJ8_hugeLength_7cf53 19 = .ok (.ldc 206, 2) := by decide +kernel
theorem dJ8_hugeLength_7cf53_21 : decode cJ8_hugeLength_7cf53 21 = .ok (.invokevirtual 94, 3) := by decide +kernel
theorem dJ8_hugeLength_7cf53_24 : decode cJ8_hugeLength_7cf53 24 = .ok (.iload_n 0, 1) := by decide +kernel
theorem dJ8_hugeLength_7cf53_25 : decode cJ8_hugeLength_7cf53 25 = .ok (.invokevirtual 98, 3) := by decide +kernel
theorem dJ8_hugeLength_7cf53_28 : decode cJ8_hugeLength_7cf53 28 = .ok (.ldc 208, 2) := by decide +kernel
theorem dJ8_hugeLength_7cf53_30 : decode cJ8_hugeLength_7cf53 30 = .ok (.invokevirtual 94, 3) := by decide +kernel
theorem dJ8_hugeLength_7cf53_33 : decode cJ8_hugeLength_7cf53 33 = .ok (.iload_n 1, 1) := by decide +kernel
theorem dJ8_hugeLength_7cf53_34 : decode cJ8_hugeLength_7cf53 34 = .ok (.invokevirtual 98, 3) := by decide +kernel
theorem dJ8_hugeLength_7cf53_37 : decode cJ8_hugeLength_7cf53 37 = .ok (.ldc 210, 2) := by decide +kernel
theorem dJ8_hugeLength_7cf53_39 : decode cJ8_hugeLength_7cf53 39 = .ok (.invokevirtual 94, 3) := by decide +kernel
theorem dJ8_hugeLength_7cf53_42 : decode cJ8_hugeLength_7cf53 42 = .ok (.invokevirtual 101, 3) := by decide +kernel
theorem dJ8_hugeLength_7cf53_45 : decode cJ8_hugeLength_7cf53 45 = .ok (.invokespecial 212, 3) := by decide +kernel
theorem dJ8_hugeLength_7cf53_48 : decode cJ8_hugeLength_7cf53 48 = .ok (.athrow, 1) := by decide +kernel
theorem dJ8_hugeLength_7cf53_49 : decode cJ8_hugeLength_7cf53 49 = .ok (.iload_n 2, 1) := by decide +kernel
theorem dJ8_hugeLength_7cf53_50 : decode cJ8_hugeLength_7cf53 50 = .ok (.ldc 200, 2) := by decide +kernel
theorem dJ8_hugeLength_7cf53_52 : decode cJ8_hugeLength_7cf53 52 = .ok (.if_icmp .gt 6, 3) := by decide +kernel
theorem dJ8_hugeLength_7cf53_55 : decode cJ8_hugeLength_7cf53 55 = .ok (.ldc 200, 2) := by decide +kernel
theorem dJ8_hugeLength_7cf53_57 : decode cJ8_hugeLength_7cf53 57 = .ok (.ireturn, 1) := by decide +kernel
theorem dJ8_hugeLength_7cf53_58 : decode cJ8_hugeLength_7cf53 58 = .ok (.iload_n 2, 1) := by decide +kernel
theorem dJ8_hugeLength_7cf53_59 : decode cJ8_hugeLength_7cf53 59 = .ok (.ireturn, 1) := by decide +kernel
theorem dJ3_checkIndex_8e157_0 : decode cJ3_checkIndex_8e157 0 = .ok (.iload_n 0, 1) := by decide +kernel
theorem dJ3_checkIndex_8e157_1 : decode cJ3_checkIndex_8e157 1 = .ok (.ifCond .lt 8, 3) := by decide +kernel
theorem dJ3_checkIndex_8e157_4 : decode cJ3_checkIndex_8e157 4 = .ok (.iload_n 0, 1) := by decide +kernel
theorem dJ3_checkIndex_8e157_5 : decode cJ3_checkIndex_8e157 5 = .ok (.iload_n 1, 1) := by decide +kernel
theorem dJ3_checkIndex_8e157_6 : decode cJ3_checkIndex_8e157 6 = .ok (.if_icmp .lt 10, 3) := by decide +kernel
theorem dJ3_checkIndex_8e157_9 : decode cJ3_checkIndex_8e157 9 = .ok (.aload_n 2, 1) := by decide +kernel
theorem dJ3_checkIndex_8e157_10 : decode cJ3_checkIndex_8e157 10 = .ok (.iload_n 0, 1) := by decide +kernel
theorem dJ3_checkIndex_8e157_11 : decode cJ3_checkIndex_8e157 11 = .ok (.iload_n 1, 1) := by decide +kernel
theorem dJ3_checkIndex_8e157_12 : decode cJ3_checkIndex_8e157 12 = .ok (.invokestatic 95, 3) := by decide +kernel
theorem dJ3_checkIndex_8e157_15 : decode cJ3_checkIndex_8e157 15 = .ok (.athrow, 1) := by decide +kernel
theorem dJ3_checkIndex_8e157_16 : decode cJ3_checkIndex_8e157 16 = .ok (.iload_n 0, 1) := by decide +kernel
theorem dJ3_checkIndex_8e157_17 : decode cJ3_checkIndex_8e157 17 = .ok (.ireturn, 1) := by decide +kernel
end
section
theorem dX7_init_0 : decode cX7_init 0 = .ok (.aload_n 0, 1) := by decide +kernel
theorem dX7_init_1 : decode cX7_init 1 = .ok (.invokespecial 1, 3) := by decide +kernel
theorem dX7_init_4 : decode cX7_init 4 = .ok (.aload_n 0, 1) := by decide +kernel
theorem dX7_init_5 : decode cX7_init 5 = .ok (.bipush 10, 2) := by decide +kernel
theorem dX7_init_7 : decode cX7_init 7 = .ok (.newarray .int, 2) := by decide +kernel
theorem dX7_init_9 : decode cX7_init 9 = .ok (.putfield 9, 3) := by decide +kernel
theorem dX7_init_12 : decode cX7_init 12 = .ok (.aload_n 0, 1) := by decide +kernel
theorem dX7_init_13 : decode cX7_init 13 = .ok (.new 13, 3) := by decide +kernel
theorem dX7_init_16 : decode cX7_init 16 = .ok (.dup, 1) := by decide +kernel
theorem dX7_init_17 : decode cX7_init 17 = .ok (.invokespecial 15, 3) := by decide +kernel
theorem dX7_init_20 : decode cX7_init 20 = .ok (.putfield 16, 3) := by decide +kernel
theorem dX7_init_23 : decode cX7_init 23 = .ok (.aload_n 0, 1) := by decide +kernel
theorem dX7_init_24 : decode cX7_init 24 = .ok (.new 13, 3) := by decide +kernel
theorem dX7_init_27 : decode cX7_init 27 = .ok (.dup, 1) := by decide +kernel
theorem dX7_init_28 : decode cX7_init 28 = .ok (.invokespecial 15, 3) := by decide +kernel
theorem dX7_init_31 : decode cX7_init 31 = .ok (.putfield 20, 3) := by decide +kernel
theorem dX7_init_34 : decode cX7_init 34 = .ok (.aload_n 0, 1) := by decide +kernel
theorem dX7_init_35 : decode cX7_init 35 = .ok (.new 23, 3) := by decide +kernel
theorem dX7_init_38 : decode cX7_init 38 = .ok (.dup, 1) := by decide +kernel
theorem dX7_init_39 : decode cX7_init 39 = .ok (.invokespecial 25, 3) := by decide +kernel
theorem dX7_init_42 : decode cX7_init 42 = .ok (.putfield 26, 3) := by decide +kernel
theorem dX7_init_45 : decode cX7_init 45 = .ok (.aload_n 0, 1) := by decide +kernel
theorem dX7_init_46 : decode cX7_init 46 = .ok (.new 30, 3) := by decide +kernel
theorem dX7_init_49 : decode cX7_init 49 = .ok (.dup, 1) := by decide +kernel
theorem dX7_init_50 : decode cX7_init 50 = .ok (.invokespecial 32, 3) := by decide +kernel
theorem dX7_init_53 : decode cX7_init 53 = .ok (.putfield 33, 3) := by decide +kernel
theorem dX7_init_56 : decode cX7_init 56 = .ok (.aload_n 0, 1) := by decide +kernel
theorem dX7_init_57 : decode cX7_init 57 = .ok (.new 37, 3) := by decide +kernel
theorem dX7_init_60 : decode cX7_init 60 = .ok (.dup, 1) := by decide +kernel
theorem dX7_init_61 : decode cX7_init 61 = .ok (.invokespecial 39, 3) := by decide +kernel
theorem dX7_init_64 : decode cX7_init 64 = .ok (.putfield 40, 3) := by decide +kernel
theorem dX7_init_67 : decode cX7_init 67 = .ok (.aload_n 0, 1) := by decide +kernel
theorem dX7_init_68 : decode cX7_init 68 = .ok (.new 44, 3) := by decide +kernel
theorem dX7_init_71 : decode cX7_init 71 = .ok (.dup, 1) := by decide +kernel
theorem dX7_init_72 : decode cX7_init 72 = .ok (.invokespecial 46, 3) := by decide +kernel
theorem dX7_init_75 : decode cX7_init 75 = .ok (.putfield 47, 3) := by decide +kernel
theorem dX7_init_78 : decode cX7_init 78 = .ok (.aload_n 0, 1) := by decide +kernel
theorem dX7_init_79 : decode cX7_init 79 = .ok (.new 51, 3) := by decide +kernel
theorem dX7_init_82 : decode cX7_init 82 = .ok (.dup, 1) := by decide +kernel
theorem dX7_init_83 : decode cX7_init 83 = .ok (.invokespecial 53, 3) := by decide +kernel
theorem dX7_init_86 : decode cX7_init 86 = .ok (.putfield 54, 3) := by decide +kernel
theorem dX7_init_89 : decode cX7_init 89 = .ok (.aload_n 0, 1) := by decide +kernel
theorem dX7_init_90 : decode cX7_init 90 = .ok (.new 58, 3) := by decide +kernel
theorem dX7_init_93 : decode cX7_init 93 = .ok (.dup, 1) := by decide +kernel
theorem dX7_init_94 : decode cX7_init 94 = .ok (.invokespecial 60, 3) := by decide +kernel
theorem dX7_init_97 : decode cX7_init 97 = .ok (.putfield 61, 3) := by decide +kernel
theorem dX7_init_100 : decode cX7_init 100 = .ok (.aload_n 0, 1) := by decide +kernel
theorem dX7_init_101 : decode cX7_init 101 = .ok (.iconst 0, 1) := by decide +kernel
theorem dX7_init_102 : decode cX7_init 102 = .ok (.putfield 65, 3) := by decide +kernel
theorem dX7_init_105 : decode cX7_init 105 = .ok (.aload_n 0, 1) := by decide +kernel
theorem dX7_init_106 : decode cX7_init 106 = .ok (.iconst (-1), 1) := by decide +kernel
theorem dX7_init_107 : decode cX7_init 107 = .ok (.putfield 69, 3) := by decide +kernel
theorem dX7_init_110 : decode cX7_init 110 = .ok (.return_, 1) := by decide +kernel
theorem dX7_part_0 : decode cX7_part 0 = .ok (.aload_n 0, 1) := by decide +kernel
theorem dX7_part_1 : decode cX7_part 1 = .ok (.invokevirtual 72, 3) := by decide +kernel
theorem dX7_part_4 : decode cX7_part 4 = .ok (.ifCond .ne 19, 3) := by decide +kernel
theorem dX7_part_7 : decode cX7_part 7 = .ok (.aload_n 0, 1) := by decide +kernel
theorem dX7_part_8 : decode cX7_part 8 = .ok (.getfield 65, 3) := by decide +kernel
theorem dX7_part_11 : decode cX7_part 11 = .ok (.bipush 10, 2) := by decide +kernel
theorem dX7_part_13 : decode cX7_part 13 = .ok (.if_icmp .ge 10, 3) := by decide +kernel
theorem dX7_part_16 : decode cX7_part 16 = .ok (.iload_n 1, 1) := by decide +kernel
theorem dX7_part_17 : decode cX7_part 17 = .ok (.invokestatic 76, 3) := by decide +kernel
theorem dX7_part_20 : decode cX7_part 20 = .ok (.ifCond .ne 5, 3) := by decide +kernel
theorem dX7_part_23 : decode cX7_part 23 = .ok (.iconst (-1), 1) := by decide +kernel
theorem dX7_part_24 : decode cX7_part 24 = .ok (.ireturn, 1) := by decide +kernel
theorem dX7_part_25 : decode cX7_part 25 = .ok (.aload_n 0, 1) := by decide +kernel
theorem dX7_part_26 : decode cX7_part 26 = .ok (.getfield 9, 3) := by decide +kernel
theorem dX7_part_29 : decode cX7_part 29 = .ok (.aload_n 0, 1) := by decide +kernel
theorem dX7_part_30 : decode cX7_part 30 = .ok (.getfield 65, 3) := by decide +kernel
theorem dX7_part_33 : decode cX7_part 33 = .ok (.iload_n 1, 1) := by decide +kernel
theorem dX7_part_34 : decode cX7_part 34 = .ok (.iastore, 1) := by decide +kernel
theorem dX7_part_35 : decode cX7_part 35 = .ok (.aload_n 0, 1) := by decide +kernel
theorem dX7_part_36 : decode cX7_part 36 = .ok (.dup, 1) := by decide +kernel
theorem dX7_part_37 : decode cX7_part 37 = .ok (.getfield 65, 3) := by decide +kernel
theorem dX7_part_40 : decode cX7_part 40 = .ok (.iconst 1, 1) := by decide +kernel
theorem dX7_part_41 : decode cX7_part 41 = .ok (.iadd, 1) := by decide +kernel
theorem dX7_part_42 : decode cX7_part 42 = .ok (.putfield 65, 3) := by decide +kernel
theorem dX7_part_45 : decode cX7_part 45 = .ok (.aload_n 0, 1) := by decide +kernel
theorem dX7_part_46 : decode cX7_part 46 = .ok (.getfield 65, 3) := by decide +kernel
theorem dX7_part_49 : decode cX7_part 49 = .ok (.iconst 1, 1) := by decide +kernel
theorem dX7_part_50 : decode cX7_part 50 = .ok (.isub, 1) := by decide +kernel
theorem dX7_part_51 : decode cX7_part 51 = .ok (.ireturn, 1) := by decide +kernel
theorem dX7_offer_0 : decode cX7_offer 0 = .ok (.aload_n 0, 1) := by decide +kernel
theorem dX7_offer_1 : decode cX7_offer 1 = .ok (.iload_n 1, 1) := by decide +kernel
theorem dX7_offer_2 : decode cX7_offer 2 = .ok (.invokevirtual 80, 3) := by decide +kernel
theorem dX7_offer_5 : decode cX7_offer 5 = .ok (.ifCond .eq 26, 3) := by decide +kernel
theorem dX7_offer_8 : decode cX7_offer 8 = .ok (.iload_n 2, 1) := by decide +kernel
theorem dX7_offer_9 : decode cX7_offer 9 = .ok (.invokestatic 76, 3) := by decide +kernel
theorem dX7_offer_12 : decode cX7_offer 12 = .ok (.ifCond .eq 19, 3) := by decide +kernel
theorem dX7_offer_15 : decode cX7_offer 15 = .ok (.iload_n 3, 1) := by decide +kernel
theorem dX7_offer_16 : decode cX7_offer 16 = .ok (.invokestatic 83, 3) := by decide +kernel
theorem dX7_offer_19 : decode cX7_offer 19 = .ok (.ifCond .eq 12, 3) := by decide +kernel
theorem dX7_offer_22 : decode cX7_offer 22 = .ok (.iload_n 2, 1) := by decide +kernel
theorem dX7_offer_23 : decode cX7_offer 23 = .ok (.aload_n 0, 1) := by decide +kernel
theorem dX7_offer_24 : decode cX7_offer 24 = .ok (.iload_n 1, 1) := by decide +kernel
theorem dX7_offer_25 : decode cX7_offer 25 = .ok (.invokevirtual 86, 3) := by decide +kernel
theorem dX7_offer_28 : decode cX7_offer 28 = .ok (.if_icmp .ne 5, 3) := by decide +kernel
theorem dX7_offer_31 : decode cX7_offer 31 = .ok (.iconst 0, 1) := by decide +kernel
theorem dX7_offer_32 : decode cX7_offer 32 = .ok (.ireturn, 1) := by decide +kernel
theorem dX7_offer_33 : decode cX7_offer 33 = .ok (.aload_n 0, 1) := by decide +kernel
theorem dX7_offer_34 : decode cX7_offer 34 = .ok (.invokevirtual 90, 3) := by decide +kernel
theorem dX7_offer_37 : decode cX7_offer 37 = .ok (.iload_n 1, 1) := by decide +kernel
theorem dX7_offer_38 : decode cX7_offer 38 = .ok (.iload_n 2, 1) := by decide +kernel
theorem dX7_offer_39 : decode cX7_offer 39 = .ok (.iload_n 3, 1) := by decide +kernel
theorem dX7_offer_40 : decode cX7_offer 40 = .ok (.invokevirtual 94, 3) := by decide +kernel
theorem dX7_offer_43 : decode cX7_offer 43 = .ok (.iconst 1, 1) := by decide +kernel
theorem dX7_offer_44 : decode cX7_offer 44 = .ok (.ireturn, 1) := by decide +kernel
theorem dX7_withdraw_0 : decode cX7_withdraw 0 = .ok (.aload_n 0, 1) := by decide +kernel
theorem dX7_withdraw_1 : decode cX7_withdraw 1 = .ok (.iload_n 1, 1) := by decide +kernel
theorem dX7_withdraw_2 : decode cX7_withdraw 2 = .ok (.invokevirtual 80, 3) := by decide +kernel
theorem dX7_withdraw_5 : decode cX7_withdraw 5 = .ok (.ifCond .eq 14, 3) := by decide +kernel
theorem dX7_withdraw_8 : decode cX7_withdraw 8 = .ok (.aload_n 0, 1) := by decide +kernel
theorem dX7_withdraw_9 : decode cX7_withdraw 9 = .ok (.invokevirtual 90, 3) := by decide +kernel
theorem dX7_withdraw_12 : decode cX7_withdraw 12 = .ok (.iload_n 1, 1) := by decide +kernel
theorem dX7_withdraw_13 : decode cX7_withdraw 13 = .ok (.invokevirtual 98, 3) := by decide +kernel
theorem dX7_withdraw_16 : decode cX7_withdraw 16 = .ok (.ifCond .ne 5, 3) := by decide +kernel
theorem dX7_withdraw_19 : decode cX7_withdraw 19 = .ok (.iconst 0, 1) := by decide +kernel
theorem dX7_withdraw_20 : decode cX7_withdraw 20 = .ok (.ireturn, 1) := by decide +kernel
theorem dX7_withdraw_21 : decode cX7_withdraw 21 = .ok (.aload_n 0, 1) := by decide +kernel
theorem dX7_withdraw_22 : decode cX7_withdraw 22 = .ok (.invokevirtual 90, 3) := by decide +kernel
theorem dX7_withdraw_25 : decode cX7_withdraw 25 = .ok (.iload_n 1, 1) := by decide +kernel
theorem dX7_withdraw_26 : decode cX7_withdraw 26 = .ok (.invokevirtual 101, 3) := by decide +kernel
theorem dX7_withdraw_29 : decode cX7_withdraw 29 = .ok (.iconst 1, 1) := by decide +kernel
theorem dX7_withdraw_30 : decode cX7_withdraw 30 = .ok (.ireturn, 1) := by decide +kernel
theorem dX7_need_0 : decode cX7_need 0 = .ok (.aload_n 0, 1) := by decide +kernel
theorem dX7_need_1 : decode cX7_need 1 = .ok (.invokevirtual 72, 3) := by decide +kernel
theorem dX7_need_4 : decode cX7_need 4 = .ok (.ifCond .ne 24, 3) := by decide +kernel
theorem dX7_need_7 : decode cX7_need 7 = .ok (.aload_n 0, 1) := by decide +kernel
theorem dX7_need_8 : decode cX7_need 8 = .ok (.iload_n 1, 1) := by decide +kernel
theorem dX7_need_9 : decode cX7_need 9 = .ok (.invokevirtual 80, 3) := by decide +kernel
theorem dX7_need_12 : decode cX7_need 12 = .ok (.ifCond .eq 16, 3) := by decide +kernel
theorem dX7_need_15 : decode cX7_need 15 = .ok (.aload_n 0, 1) := by decide +kernel
theorem dX7_need_16 : decode cX7_need 16 = .ok (.iload_n 3, 1) := by decide +kernel
theorem dX7_need_17 : decode cX7_need 17 = .ok (.invokevirtual 80, 3) := by decide +kernel
theorem dX7_need_20 : decode cX7_need 20 = .ok (.ifCond .eq 8, 3) := by decide +kernel
theorem dX7_need_23 : decode cX7_need 23 = .ok (.iload_n 1, 1) := by decide +kernel
theorem dX7_need_24 : decode cX7_need 24 = .ok (.iload_n 3, 1) := by decide +kernel
theorem dX7_need_25 : decode cX7_need 25 = .ok (.if_icmp .ne 5, 3) := by decide +kernel
theorem dX7_need_28 : decode cX7_need 28 = .ok (.iconst (-1), 1) := by decide +kernel
theorem dX7_need_29 : decode cX7_need 29 = .ok (.ireturn, 1) := by decide +kernel
theorem dX7_need_30 : decode cX7_need 30 = .ok (.iload_n 2, 1) := by decide +kernel
theorem dX7_need_31 : decode cX7_need 31 = .ok (.invokestatic 76, 3) := by decide +kernel
theorem dX7_need_34 : decode cX7_need 34 = .ok (.ifCond .eq 26, 3) := by decide +kernel
theorem dX7_need_37 : decode cX7_need 37 = .ok (.iload 4, 2) := by decide +kernel
theorem dX7_need_39 : decode cX7_need 39 = .ok (.invokestatic 76, 3) := by decide +kernel
theorem dX7_need_42 : decode cX7_need 42 = .ok (.ifCond .eq 18, 3) := by decide +kernel
theorem dX7_need_45 : decode cX7_need 45 = .ok (.iload 5, 2) := by decide +kernel
theorem dX7_need_47 : decode cX7_need 47 = .ok (.invokestatic 76, 3) := by decide +kernel
theorem dX7_need_50 : decode cX7_need 50 = .ok (.ifCond .eq 10, 3) := by decide +kernel
theorem dX7_need_53 : decode cX7_need 53 = .ok (.iload 4, 2) := by decide +kernel
theorem dX7_need_55 : decode cX7_need 55 = .ok (.iload 5, 2) := by decide +kernel
theorem dX7_need_57 : decode cX7_need 57 = .ok (.if_icmp .le 5, 3) := by decide +kernel
theorem dX7_need_60 : decode cX7_need 60 = .ok (.iconst (-1), 1) := by decide +kernel
theorem dX7_need_61 : decode cX7_need 61 = .ok (.ireturn, 1) := by decide +kernel
theorem dX7_need_62 : decode cX7_need 62 = .ok (.aload_n 0, 1) := by decide +kernel
theorem dX7_need_63 : decode cX7_need 63 = .ok (.getfield 26, 3) := by decide +kernel
theorem dX7_need_66 : decode cX7_need 66 = .ok (.iload_n 1, 1) := by decide +kernel
theorem dX7_need_67 : decode cX7_need 67 = .ok (.iload_n 2, 1) := by decide +kernel
theorem dX7_need_68 : decode cX7_need 68 = .ok (.iload_n 3, 1) := by decide +kernel
theorem dX7_need_69 : decode cX7_need 69 = .ok (.iload 4, 2) := by decide +kernel
theorem dX7_need_71 : decode cX7_need 71 = .ok (.iload 5, 2) := by decide +kernel
theorem dX7_need_73 : decode cX7_need 73 = .ok (.invokevirtual 105, 3) := by decide +kernel
theorem dX7_need_76 : decode cX7_need 76 = .ok (.ireturn, 1) := by decide +kernel
theorem dX7_test_0 : decode cX7_test 0 = .ok (.aload_n 0, 1) := by decide +kernel
theorem dX7_test_1 : decode cX7_test 1 = .ok (.invokevirtual 72, 3) := by decide +kernel
theorem dX7_test_4 : decode cX7_test 4 = .ok (.ifCond .ne 15, 3) := by decide +kernel
theorem dX7_test_7 : decode cX7_test 7 = .ok (.iload_n 1, 1) := by decide +kernel
theorem dX7_test_8 : decode cX7_test 8 = .ok (.ifCond .eq 11, 3) := by decide +kernel
theorem dX7_test_11 : decode cX7_test 11 = .ok (.aload_n 0, 1) := by decide +kernel
theorem dX7_test_12 : decode cX7_test 12 = .ok (.iload_n 1, 1) := by decide +kernel
theorem dX7_test_13 : decode cX7_test 13 = .ok (.invokevirtual 109, 3) := by decide +kernel
theorem dX7_test_16 : decode cX7_test 16 = .ok (.ifCond .ne 5, 3) := by decide +kernel
theorem dX7_test_19 : decode cX7_test 19 = .ok (.iconst (-1), 1) := by decide +kernel
theorem dX7_test_20 : decode cX7_test 20 = .ok (.ireturn, 1) := by decide +kernel
theorem dX7_test_21 : decode cX7_test 21 = .ok (.aload_n 0, 1) := by decide +kernel
theorem dX7_test_22 : decode cX7_test 22 = .ok (.getfield 33, 3) := by decide +kernel
theorem dX7_test_25 : decode cX7_test 25 = .ok (.iload_n 1, 1) := by decide +kernel
theorem dX7_test_26 : decode cX7_test 26 = .ok (.invokevirtual 112, 3) := by decide +kernel
theorem dX7_test_29 : decode cX7_test 29 = .ok (.ireturn, 1) := by decide +kernel
theorem dX7_fits_0 : decode cX7_fits 0 = .ok (.iload_n 1, 1) := by decide +kernel
theorem dX7_fits_1 : decode cX7_fits 1 = .ok (.aload_n 0, 1) := by decide +kernel
theorem dX7_fits_2 : decode cX7_fits 2 = .ok (.getfield 16, 3) := by decide +kernel
theorem dX7_fits_5 : decode cX7_fits 5 = .ok (.invokevirtual 114, 3) := by decide +kernel
theorem dX7_fits_8 : decode cX7_fits 8 = .ok (.iconst (-1), 1) := by decide +kernel
theorem dX7_fits_9 : decode cX7_fits 9 = .ok (.ixor, 1) := by decide +kernel
theorem dX7_fits_10 : decode cX7_fits 10 = .ok (.iand, 1) := by decide +kernel
theorem dX7_fits_11 : decode cX7_fits 11 = .ok (.ifCond .eq 5, 3) := by decide +kernel
theorem dX7_fits_14 : decode cX7_fits 14 = .ok (.iconst (-1), 1) := by decide +kernel
theorem dX7_fits_15 : decode cX7_fits 15 = .ok (.ireturn, 1) := by decide +kernel
theorem dX7_fits_16 : decode cX7_fits 16 = .ok (.aload_n 0, 1) := by decide +kernel
theorem dX7_fits_17 : decode cX7_fits 17 = .ok (.iload_n 1, 1) := by decide +kernel
theorem dX7_fits_18 : decode cX7_fits 18 = .ok (.invokevirtual 118, 3) := by decide +kernel
theorem dX7_fits_21 : decode cX7_fits 21 = .ok (.iconst (-1), 1) := by decide +kernel
theorem dX7_fits_22 : decode cX7_fits 22 = .ok (.if_icmp .ne 7, 3) := by decide +kernel
theorem dX7_fits_25 : decode cX7_fits 25 = .ok (.iconst 1, 1) := by decide +kernel
theorem dX7_fits_26 : decode cX7_fits 26 = .ok (.goto 4, 3) := by decide +kernel
theorem dX7_fits_29 : decode cX7_fits 29 = .ok (.iconst 0, 1) := by decide +kernel
theorem dX7_fits_30 : decode cX7_fits 30 = .ok (.ireturn, 1) := by decide +kernel
theorem dX7_red_0 : decode cX7_red 0 = .ok (.aload_n 0, 1) := by decide +kernel
theorem dX7_red_1 : decode cX7_red 1 = .ok (.iload_n 1, 1) := by decide +kernel
theorem dX7_red_2 : decode cX7_red 2 = .ok (.invokevirtual 109, 3) := by decide +kernel
theorem dX7_red_5 : decode cX7_red 5 = .ok (.ifCond .eq 14, 3) := by decide +kernel
theorem dX7_red_8 : decode cX7_red 8 = .ok (.aload_n 0, 1) := by decide +kernel
theorem dX7_red_9 : decode cX7_red 9 = .ok (.getfield 33, 3) := by decide +kernel
theorem dX7_red_12 : decode cX7_red 12 = .ok (.iload_n 1, 1) := by decide +kernel
theorem dX7_red_13 : decode cX7_red 13 = .ok (.invokevirtual 121, 3) := by decide +kernel
theorem dX7_red_16 : decode cX7_red 16 = .ok (.goto 4, 3) := by decide +kernel
theorem dX7_red_19 : decode cX7_red 19 = .ok (.iconst (-1), 1) := by decide +kernel
theorem dX7_red_20 : decode cX7_red 20 = .ok (.ireturn, 1) := by decide +kernel
theorem dX7_cut_0 : decode cX7_cut 0 = .ok (.aload_n 0, 1) := by decide +kernel
theorem dX7_cut_1 : decode cX7_cut 1 = .ok (.invokevirtual 72, 3) := by decide +kernel
theorem dX7_cut_4 : decode cX7_cut 4 = .ok (.ifCond .eq 5, 3) := by decide +kernel
theorem dX7_cut_7 : decode cX7_cut 7 = .ok (.iconst (-1), 1) := by decide +kernel
theorem dX7_cut_8 : decode cX7_cut 8 = .ok (.ireturn, 1) := by decide +kernel
theorem dX7_cut_9 : decode cX7_cut 9 = .ok (.aload_n 0, 1) := by decide +kernel
theorem dX7_cut_10 : decode cX7_cut 10 = .ok (.aload_n 0, 1) := by decide +kernel
theorem dX7_cut_11 : decode cX7_cut 11 = .ok (.getfield 16, 3) := by decide +kernel
theorem dX7_cut_14 : decode cX7_cut 14 = .ok (.invokevirtual 114, 3) := by decide +kernel
theorem dX7_cut_17 : decode cX7_cut 17 = .ok (.iconst 0, 1) := by decide +kernel
theorem dX7_cut_18 : decode cX7_cut 18 = .ok (.invokevirtual 124, 3) := by decide +kernel
theorem dX7_cut_21 : decode cX7_cut 21 = .ok (.istore_n 1, 1) := by decide +kernel
theorem dX7_cut_22 : decode cX7_cut 22 = .ok (.iload_n 1, 1) := by decide +kernel
theorem dX7_cut_23 : decode cX7_cut 23 = .ok (.iconst (-1), 1) := by decide +kernel
theorem dX7_cut_24 : decode cX7_cut 24 = .ok (.if_icmp .eq 8, 3) := by decide +kernel
theorem dX7_cut_27 : decode cX7_cut 27 = .ok (.aload_n 0, 1) := by decide +kernel
theorem dX7_cut_28 : decode cX7_cut 28 = .ok (.iload_n 1, 1) := by decide +kernel
theorem dX7_cut_29 : decode cX7_cut 29 = .ok (.invokevirtual 128, 3) := by decide +kernel
theorem dX7_cut_32 : decode cX7_cut 32 = .ok (.iload_n 1, 1) := by decide +kernel
theorem dX7_cut_33 : decode cX7_cut 33 = .ok (.ireturn, 1) := by decide +kernel
theorem dX7_chosen_0 : decode cX7_chosen 0 = .ok (.aload_n 0, 1) := by decide +kernel
theorem dX7_chosen_1 : decode cX7_chosen 1 = .ok (.getfield 69, 3) := by decide +kernel
theorem dX7_chosen_4 : decode cX7_chosen 4 = .ok (.ireturn, 1) := by decide +kernel
theorem dX7_worth_0 : decode cX7_worth 0 = .ok (.aload_n 0, 1) := by decide +kernel
theorem dX7_worth_1 : decode cX7_worth 1 = .ok (.invokevirtual 72, 3) := by decide +kernel
theorem dX7_worth_4 : decode cX7_worth 4 = .ok (.ifCond .eq 17, 3) := by decide +kernel
theorem dX7_worth_7 : decode cX7_worth 7 = .ok (.aload_n 0, 1) := by decide +kernel
theorem dX7_worth_8 : decode cX7_worth 8 = .ok (.getfield 16, 3) := by decide +kernel
theorem dX7_worth_11 : decode cX7_worth 11 = .ok (.aload_n 0, 1) := by decide +kernel
theorem dX7_worth_12 : decode cX7_worth 12 = .ok (.getfield 69, 3) := by decide +kernel
theorem dX7_worth_15 : decode cX7_worth 15 = .ok (.invokevirtual 131, 3) := by decide +kernel
theorem dX7_worth_18 : decode cX7_worth 18 = .ok (.goto 4, 3) := by decide +kernel
theorem dX7_worth_21 : decode cX7_worth 21 = .ok (.iconst (-1), 1) := by decide +kernel
theorem dX7_worth_22 : decode cX7_worth 22 = .ok (.ireturn, 1) := by decide +kernel
theorem dX7_why_0 : decode cX7_why 0 = .ok (.aload_n 0, 1) := by decide +kernel
theorem dX7_why_1 : decode cX7_why 1 = .ok (.invokevirtual 72, 3) := by decide +kernel
theorem dX7_why_4 : decode cX7_why 4 = .ok (.ifCond .eq 30, 3) := by decide +kernel
theorem dX7_why_7 : decode cX7_why 7 = .ok (.aload_n 0, 1) := by decide +kernel
theorem dX7_why_8 : decode cX7_why 8 = .ok (.iload_n 1, 1) := by decide +kernel
theorem dX7_why_9 : decode cX7_why 9 = .ok (.invokevirtual 80, 3) := by decide +kernel
theorem dX7_why_12 : decode cX7_why 12 = .ok (.ifCond .eq 22, 3) := by decide +kernel
theorem dX7_why_15 : decode cX7_why 15 = .ok (.aload_n 0, 1) := by decide +kernel
theorem dX7_why_16 : decode cX7_why 16 = .ok (.getfield 16, 3) := by decide +kernel
theorem dX7_why_19 : decode cX7_why 19 = .ok (.iload_n 1, 1) := by decide +kernel
theorem dX7_why_20 : decode cX7_why 20 = .ok (.invokevirtual 98, 3) := by decide +kernel
theorem dX7_why_23 : decode cX7_why 23 = .ok (.ifCond .eq 11, 3) := by decide +kernel
theorem dX7_why_26 : decode cX7_why 26 = .ok (.aload_n 0, 1) := by decide +kernel
theorem dX7_why_27 : decode cX7_why 27 = .ok (.iload_n 1, 1) := by decide +kernel
theorem dX7_why_28 : decode cX7_why 28 = .ok (.invokevirtual 134, 3) := by decide +kernel
theorem dX7_why_31 : decode cX7_why 31 = .ok (.ifCond .eq 5, 3) := by decide +kernel
theorem dX7_why_34 : decode cX7_why 34 = .ok (.iconst (-1), 1) := by decide +kernel
theorem dX7_why_35 : decode cX7_why 35 = .ok (.ireturn, 1) := by decide +kernel
theorem dX7_why_36 : decode cX7_why 36 = .ok (.aload_n 0, 1) := by decide +kernel
theorem dX7_why_37 : decode cX7_why 37 = .ok (.getfield 69, 3) := by decide +kernel
theorem dX7_why_40 : decode cX7_why 40 = .ok (.iconst 1, 1) := by decide +kernel
theorem dX7_why_41 : decode cX7_why 41 = .ok (.iload_n 1, 1) := by decide +kernel
theorem dX7_why_42 : decode cX7_why 42 = .ok (.ishl, 1) := by decide +kernel
theorem dX7_why_43 : decode cX7_why 43 = .ok (.ior, 1) := by decide +kernel
theorem dX7_why_44 : decode cX7_why 44 = .ok (.istore_n 2, 1) := by decide +kernel
theorem dX7_why_45 : decode cX7_why 45 = .ok (.aload_n 0, 1) := by decide +kernel
theorem dX7_why_46 : decode cX7_why 46 = .ok (.iload_n 2, 1) := by decide +kernel
theorem dX7_why_47 : decode cX7_why 47 = .ok (.invokevirtual 118, 3) := by decide +kernel
theorem dX7_why_50 : decode cX7_why 50 = .ok (.istore_n 3, 1) := by decide +kernel
theorem dX7_why_51 : decode cX7_why 51 = .ok (.iload_n 3, 1) := by decide +kernel
theorem dX7_why_52 : decode cX7_why 52 = .ok (.iconst (-1), 1) := by decide +kernel
theorem dX7_why_53 : decode cX7_why 53 = .ok (.if_icmp .eq 8, 3) := by decide +kernel
theorem dX7_why_56 : decode cX7_why 56 = .ok (.bipush 100, 2) := by decide +kernel
theorem dX7_why_58 : decode cX7_why 58 = .ok (.iload_n 3, 1) := by decide +kernel
theorem dX7_why_59 : decode cX7_why 59 = .ok (.iadd, 1) := by decide +kernel
theorem dX7_why_60 : decode cX7_why 60 = .ok (.ireturn, 1) := by decide +kernel
theorem dX7_why_61 : decode cX7_why 61 = .ok (.aload_n 0, 1) := by decide +kernel
theorem dX7_why_62 : decode cX7_why 62 = .ok (.getfield 33, 3) := by decide +kernel
theorem dX7_why_65 : decode cX7_why 65 = .ok (.iload_n 2, 1) := by decide +kernel
theorem dX7_why_66 : decode cX7_why 66 = .ok (.invokevirtual 121, 3) := by decide +kernel
theorem dX7_why_69 : decode cX7_why 69 = .ok (.istore 4, 2) := by decide +kernel
theorem dX7_why_71 : decode cX7_why 71 = .ok (.iload 4, 2) := by decide +kernel
theorem dX7_why_73 : decode cX7_why 73 = .ok (.iconst (-1), 1) := by decide +kernel
theorem dX7_why_74 : decode cX7_why 74 = .ok (.if_icmp .eq 12, 3) := by decide +kernel
theorem dX7_why_77 : decode cX7_why 77 = .ok (.sipush 200, 3) := by decide +kernel
theorem dX7_why_80 : decode cX7_why 80 = .ok (.iload 4, 2) := by decide +kernel
theorem dX7_why_82 : decode cX7_why 82 = .ok (.iadd, 1) := by decide +kernel
theorem dX7_why_83 : decode cX7_why 83 = .ok (.goto 4, 3) := by decide +kernel
theorem dX7_why_86 : decode cX7_why 86 = .ok (.iconst 0, 1) := by decide +kernel
theorem dX7_why_87 : decode cX7_why 87 = .ok (.ireturn, 1) := by decide +kernel
theorem dX7_fix_0 : decode cX7_fix 0 = .ok (.aload_n 0, 1) := by decide +kernel
theorem dX7_fix_1 : decode cX7_fix 1 = .ok (.iload_n 1, 1) := by decide +kernel
theorem dX7_fix_2 : decode cX7_fix 2 = .ok (.iload_n 2, 1) := by decide +kernel
theorem dX7_fix_3 : decode cX7_fix 3 = .ok (.iload_n 3, 1) := by decide +kernel
theorem dX7_fix_4 : decode cX7_fix 4 = .ok (.invokevirtual 137, 3) := by decide +kernel
theorem dX7_fix_7 : decode cX7_fix 7 = .ok (.ifCond .ne 5, 3) := by decide +kernel
theorem dX7_fix_10 : decode cX7_fix 10 = .ok (.iconst (-1), 1) := by decide +kernel
theorem dX7_fix_11 : decode cX7_fix 11 = .ok (.ireturn, 1) := by decide +kernel
theorem dX7_fix_12 : decode cX7_fix 12 = .ok (.aload_n 0, 1) := by decide +kernel
theorem dX7_fix_13 : decode cX7_fix 13 = .ok (.getfield 16, 3) := by decide +kernel
theorem dX7_fix_16 : decode cX7_fix 16 = .ok (.iload_n 1, 1) := by decide +kernel
theorem dX7_fix_17 : decode cX7_fix 17 = .ok (.invokevirtual 141, 3) := by decide +kernel
theorem dX7_fix_20 : decode cX7_fix 20 = .ok (.istore 4, 2) := by decide +kernel
theorem dX7_fix_22 : decode cX7_fix 22 = .ok (.aload_n 0, 1) := by decide +kernel
theorem dX7_fix_23 : decode cX7_fix 23 = .ok (.getfield 16, 3) := by decide +kernel
theorem dX7_fix_26 : decode cX7_fix 26 = .ok (.iload_n 1, 1) := by decide +kernel
theorem dX7_fix_27 : decode cX7_fix 27 = .ok (.invokevirtual 144, 3) := by decide +kernel
theorem dX7_fix_30 : decode cX7_fix 30 = .ok (.istore 5, 2) := by decide +kernel
theorem dX7_fix_32 : decode cX7_fix 32 = .ok (.aload_n 0, 1) := by decide +kernel
theorem dX7_fix_33 : decode cX7_fix 33 = .ok (.getfield 16, 3) := by decide +kernel
theorem dX7_fix_36 : decode cX7_fix 36 = .ok (.iload_n 1, 1) := by decide +kernel
theorem dX7_fix_37 : decode cX7_fix 37 = .ok (.iload_n 2, 1) := by decide +kernel
theorem dX7_fix_38 : decode cX7_fix 38 = .ok (.iload_n 3, 1) := by decide +kernel
theorem dX7_fix_39 : decode cX7_fix 39 = .ok (.invokevirtual 94, 3) := by decide +kernel
theorem dX7_fix_42 : decode cX7_fix 42 = .ok (.aload_n 0, 1) := by decide +kernel
theorem dX7_fix_43 : decode cX7_fix 43 = .ok (.getfield 26, 3) := by decide +kernel
theorem dX7_fix_46 : decode cX7_fix 46 = .ok (.aload_n 0, 1) := by decide +kernel
theorem dX7_fix_47 : decode cX7_fix 47 = .ok (.getfield 9, 3) := by decide +kernel
theorem dX7_fix_50 : decode cX7_fix 50 = .ok (.aload_n 0, 1) := by decide +kernel
theorem dX7_fix_51 : decode cX7_fix 51 = .ok (.getfield 16, 3) := by decide +kernel
theorem dX7_fix_54 : decode cX7_fix 54 = .ok (.invokevirtual 147, 3) := by decide +kernel
theorem dX7_fix_57 : decode cX7_fix 57 = .ok (.aload_n 0, 1) := by decide +kernel
theorem dX7_fix_58 : decode cX7_fix 58 = .ok (.getfield 69, 3) := by decide +kernel
theorem dX7_fix_61 : decode cX7_fix 61 = .ok (.iconst 1, 1) := by decide +kernel
theorem dX7_fix_62 : decode cX7_fix 62 = .ok (.iload_n 1, 1) := by decide +kernel
theorem dX7_fix_63 : decode cX7_fix 63 = .ok (.ishl, 1) := by decide +kernel
theorem dX7_fix_64 : decode cX7_fix 64 = .ok (.ior, 1) := by decide +kernel
theorem dX7_fix_65 : decode cX7_fix 65 = .ok (.istore 6, 2) := by decide +kernel
theorem dX7_fix_67 : decode cX7_fix 67 = .ok (.aload_n 0, 1) := by decide +kernel
theorem dX7_fix_68 : decode cX7_fix 68 = .ok (.iload 6, 2) := by decide +kernel
theorem dX7_fix_70 : decode cX7_fix 70 = .ok (.invokevirtual 151, 3) := by decide +kernel
theorem dX7_fix_73 : decode cX7_fix 73 = .ok (.ifCond .eq 11, 3) := by decide +kernel
theorem dX7_fix_76 : decode cX7_fix 76 = .ok (.aload_n 0, 1) := by decide +kernel
theorem dX7_fix_77 : decode cX7_fix 77 = .ok (.iload 6, 2) := by decide +kernel
theorem dX7_fix_79 : decode cX7_fix 79 = .ok (.invokevirtual 128, 3) := by decide +kernel
theorem dX7_fix_82 : decode cX7_fix 82 = .ok (.iconst 1, 1) := by decide +kernel
theorem dX7_fix_83 : decode cX7_fix 83 = .ok (.ireturn, 1) := by decide +kernel
theorem dX7_fix_84 : decode cX7_fix 84 = .ok (.aload_n 0, 1) := by decide +kernel
theorem dX7_fix_85 : decode cX7_fix 85 = .ok (.getfield 16, 3) := by decide +kernel
theorem dX7_fix_88 : decode cX7_fix 88 = .ok (.iload_n 1, 1) := by decide +kernel
theorem dX7_fix_89 : decode cX7_fix 89 = .ok (.iload 4, 2) := by decide +kernel
theorem dX7_fix_91 : decode cX7_fix 91 = .ok (.iload 5, 2) := by decide +kernel
theorem dX7_fix_93 : decode cX7_fix 93 = .ok (.invokevirtual 94, 3) := by decide +kernel
theorem dX7_fix_96 : decode cX7_fix 96 = .ok (.iconst 0, 1) := by decide +kernel
theorem dX7_fix_97 : decode cX7_fix 97 = .ok (.ireturn, 1) := by decide +kernel
theorem dX7_leave_0 : decode cX7_leave 0 = .ok (.aload_n 0, 1) := by decide +kernel
theorem dX7_leave_1 : decode cX7_leave 1 = .ok (.iload_n 1, 1) := by decide +kernel
theorem dX7_leave_2 : decode cX7_leave 2 = .ok (.iload_n 2, 1) := by decide +kernel
theorem dX7_leave_3 : decode cX7_leave 3 = .ok (.iload_n 3, 1) := by decide +kernel
theorem dX7_leave_4 : decode cX7_leave 4 = .ok (.invokevirtual 137, 3) := by decide +kernel
theorem dX7_leave_7 : decode cX7_leave 7 = .ok (.ifCond .ne 5, 3) := by decide +kernel
theorem dX7_leave_10 : decode cX7_leave 10 = .ok (.iconst (-1), 1) := by decide +kernel
theorem dX7_leave_11 : decode cX7_leave 11 = .ok (.ireturn, 1) := by decide +kernel
theorem dX7_leave_12 : decode cX7_leave 12 = .ok (.aload_n 0, 1) := by decide +kernel
theorem dX7_leave_13 : decode cX7_leave 13 = .ok (.getfield 16, 3) := by decide +kernel
theorem dX7_leave_16 : decode cX7_leave 16 = .ok (.iload_n 1, 1) := by decide +kernel
theorem dX7_leave_17 : decode cX7_leave 17 = .ok (.invokevirtual 141, 3) := by decide +kernel
theorem dX7_leave_20 : decode cX7_leave 20 = .ok (.istore 4, 2) := by decide +kernel
theorem dX7_leave_22 : decode cX7_leave 22 = .ok (.aload_n 0, 1) := by decide +kernel
theorem dX7_leave_23 : decode cX7_leave 23 = .ok (.getfield 16, 3) := by decide +kernel
theorem dX7_leave_26 : decode cX7_leave 26 = .ok (.iload_n 1, 1) := by decide +kernel
theorem dX7_leave_27 : decode cX7_leave 27 = .ok (.invokevirtual 144, 3) := by decide +kernel
theorem dX7_leave_30 : decode cX7_leave 30 = .ok (.istore 5, 2) := by decide +kernel
theorem dX7_leave_32 : decode cX7_leave 32 = .ok (.aload_n 0, 1) := by decide +kernel
theorem dX7_leave_33 : decode cX7_leave 33 = .ok (.getfield 16, 3) := by decide +kernel
theorem dX7_leave_36 : decode cX7_leave 36 = .ok (.iload_n 1, 1) := by decide +kernel
theorem dX7_leave_37 : decode cX7_leave 37 = .ok (.iload_n 2, 1) := by decide +kernel
theorem dX7_leave_38 : decode cX7_leave 38 = .ok (.iload_n 3, 1) := by decide +kernel
theorem dX7_leave_39 : decode cX7_leave 39 = .ok (.invokevirtual 94, 3) := by decide +kernel
theorem dX7_leave_42 : decode cX7_leave 42 = .ok (.aload_n 0, 1) := by decide +kernel
theorem dX7_leave_43 : decode cX7_leave 43 = .ok (.aload_n 0, 1) := by decide +kernel
theorem dX7_leave_44 : decode cX7_leave 44 = .ok (.getfield 69, 3) := by decide +kernel
theorem dX7_leave_47 : decode cX7_leave 47 = .ok (.iconst 1, 1) := by decide +kernel
theorem dX7_leave_48 : decode cX7_leave 48 = .ok (.iload_n 1, 1) := by decide +kernel
theorem dX7_leave_49 : decode cX7_leave 49 = .ok (.ishl, 1) := by decide +kernel
theorem dX7_leave_50 : decode cX7_leave 50 = .ok (.ior, 1) := by decide +kernel
theorem dX7_leave_51 : decode cX7_leave 51 = .ok (.iconst 1, 1) := by decide +kernel
theorem dX7_leave_52 : decode cX7_leave 52 = .ok (.iload_n 1, 1) := by decide +kernel
theorem dX7_leave_53 : decode cX7_leave 53 = .ok (.ishl, 1) := by decide +kernel
theorem dX7_leave_54 : decode cX7_leave 54 = .ok (.invokevirtual 124, 3) := by decide +kernel
theorem dX7_leave_57 : decode cX7_leave 57 = .ok (.istore 6, 2) := by decide +kernel
theorem dX7_leave_59 : decode cX7_leave 59 = .ok (.aload_n 0, 1) := by decide +kernel
theorem dX7_leave_60 : decode cX7_leave 60 = .ok (.getfield 16, 3) := by decide +kernel
theorem dX7_leave_63 : decode cX7_leave 63 = .ok (.iload_n 1, 1) := by decide +kernel
theorem dX7_leave_64 : decode cX7_leave 64 = .ok (.iload 4, 2) := by decide +kernel
theorem dX7_leave_66 : decode cX7_leave 66 = .ok (.iload 5, 2) := by decide +kernel
theorem dX7_leave_68 : decode cX7_leave 68 = .ok (.invokevirtual 94, 3) := by decide +kernel
theorem dX7_leave_71 : decode cX7_leave 71 = .ok (.iload 6, 2) := by decide +kernel
theorem dX7_leave_73 : decode cX7_leave 73 = .ok (.iconst (-1), 1) := by decide +kernel
theorem dX7_leave_74 : decode cX7_leave 74 = .ok (.if_icmp .ne 7, 3) := by decide +kernel
theorem dX7_leave_77 : decode cX7_leave 77 = .ok (.iconst (-1), 1) := by decide +kernel
theorem dX7_leave_78 : decode cX7_leave 78 = .ok (.goto 12, 3) := by decide +kernel
theorem dX7_leave_81 : decode cX7_leave 81 = .ok (.aload_n 0, 1) := by decide +kernel
theorem dX7_leave_82 : decode cX7_leave 82 = .ok (.getfield 69, 3) := by decide +kernel
theorem dX7_leave_85 : decode cX7_leave 85 = .ok (.iload 6, 2) := by decide +kernel
theorem dX7_leave_87 : decode cX7_leave 87 = .ok (.iconst (-1), 1) := by decide +kernel
theorem dX7_leave_88 : decode cX7_leave 88 = .ok (.ixor, 1) := by decide +kernel
theorem dX7_leave_89 : decode cX7_leave 89 = .ok (.iand, 1) := by decide +kernel
theorem dX7_leave_90 : decode cX7_leave 90 = .ok (.ireturn, 1) := by decide +kernel
theorem dX7_order_0 : decode cX7_order 0 = .ok (.aload_n 0, 1) := by decide +kernel
theorem dX7_order_1 : decode cX7_order 1 = .ok (.invokevirtual 72, 3) := by decide +kernel
theorem dX7_order_4 : decode cX7_order 4 = .ok (.ifCond .eq 14, 3) := by decide +kernel
theorem dX7_order_7 : decode cX7_order 7 = .ok (.aload_n 0, 1) := by decide +kernel
theorem dX7_order_8 : decode cX7_order 8 = .ok (.getfield 40, 3) := by decide +kernel
theorem dX7_order_11 : decode cX7_order 11 = .ok (.iload_n 1, 1) := by decide +kernel
theorem dX7_order_12 : decode cX7_order 12 = .ok (.invokevirtual 154, 3) := by decide +kernel
theorem dX7_order_15 : decode cX7_order 15 = .ok (.goto 4, 3) := by decide +kernel
theorem dX7_order_18 : decode cX7_order 18 = .ok (.iconst (-1), 1) := by decide +kernel
theorem dX7_order_19 : decode cX7_order 19 = .ok (.ireturn, 1) := by decide +kernel
theorem dX7_send_0 : decode cX7_send 0 = .ok (.aload_n 0, 1) := by decide +kernel
theorem dX7_send_1 : decode cX7_send 1 = .ok (.invokevirtual 72, 3) := by decide +kernel
theorem dX7_send_4 : decode cX7_send 4 = .ok (.ifCond .eq 25, 3) := by decide +kernel
theorem dX7_send_7 : decode cX7_send 7 = .ok (.aload_n 0, 1) := by decide +kernel
theorem dX7_send_8 : decode cX7_send 8 = .ok (.getfield 40, 3) := by decide +kernel
theorem dX7_send_11 : decode cX7_send 11 = .ok (.invokevirtual 157, 3) := by decide +kernel
theorem dX7_send_14 : decode cX7_send 14 = .ok (.ifCond .eq 15, 3) := by decide +kernel
theorem dX7_send_17 : decode cX7_send 17 = .ok (.aload_n 0, 1) := by decide +kernel
theorem dX7_send_18 : decode cX7_send 18 = .ok (.getfield 61, 3) := by decide +kernel
theorem dX7_send_21 : decode cX7_send 21 = .ok (.invokevirtual 160, 3) := by decide +kernel
theorem dX7_send_24 : decode cX7_send 24 = .ok (.bipush 60, 2) := by decide +kernel
theorem dX7_send_26 : decode cX7_send 26 = .ok (.if_icmp .lt 5, 3) := by decide +kernel
theorem dX7_send_29 : decode cX7_send 29 = .ok (.iconst (-1), 1) := by decide +kernel
theorem dX7_send_30 : decode cX7_send 30 = .ok (.ireturn, 1) := by decide +kernel
theorem dX7_send_31 : decode cX7_send 31 = .ok (.aload_n 0, 1) := by decide +kernel
theorem dX7_send_32 : decode cX7_send 32 = .ok (.getfield 9, 3) := by decide +kernel
theorem dX7_send_35 : decode cX7_send 35 = .ok (.aload_n 0, 1) := by decide +kernel
theorem dX7_send_36 : decode cX7_send 36 = .ok (.getfield 65, 3) := by decide +kernel
theorem dX7_send_39 : decode cX7_send 39 = .ok (.invokestatic 163, 3) := by decide +kernel
theorem dX7_send_42 : decode cX7_send 42 = .ok (.astore_n 1, 1) := by decide +kernel
theorem dX7_send_43 : decode cX7_send 43 = .ok (.iconst 0, 1) := by decide +kernel
theorem dX7_send_44 : decode cX7_send 44 = .ok (.istore_n 2, 1) := by decide +kernel
theorem dX7_send_45 : decode cX7_send 45 = .ok (.iload_n 2, 1) := by decide +kernel
theorem dX7_send_46 : decode cX7_send 46 = .ok (.aload_n 0, 1) := by decide +kernel
theorem dX7_send_47 : decode cX7_send 47 = .ok (.getfield 65, 3) := by decide +kernel
theorem dX7_send_50 : decode cX7_send 50 = .ok (.if_icmp .ge 39, 3) := by decide +kernel
theorem dX7_send_53 : decode cX7_send 53 = .ok (.aload_n 0, 1) := by decide +kernel
theorem dX7_send_54 : decode cX7_send 54 = .ok (.iload_n 2, 1) := by decide +kernel
theorem dX7_send_55 : decode cX7_send 55 = .ok (.invokevirtual 134, 3) := by decide +kernel
theorem dX7_send_58 : decode cX7_send 58 = .ok (.ifCond .eq 25, 3) := by decide +kernel
theorem dX7_send_61 : decode cX7_send 61 = .ok (.aload_n 0, 1) := by decide +kernel
theorem dX7_send_62 : decode cX7_send 62 = .ok (.getfield 9, 3) := by decide +kernel
theorem dX7_send_65 : decode cX7_send 65 = .ok (.iload_n 2, 1) := by decide +kernel
theorem dX7_send_66 : decode cX7_send 66 = .ok (.aload_n 0, 1) := by decide +kernel
theorem dX7_send_67 : decode cX7_send 67 = .ok (.getfield 16, 3) := by decide +kernel
theorem dX7_send_70 : decode cX7_send 70 = .ok (.iload_n 2, 1) := by decide +kernel
theorem dX7_send_71 : decode cX7_send 71 = .ok (.invokevirtual 141, 3) := by decide +kernel
theorem dX7_send_74 : decode cX7_send 74 = .ok (.iastore, 1) := by decide +kernel
theorem dX7_send_75 : decode cX7_send 75 = .ok (.aload_n 0, 1) := by decide +kernel
theorem dX7_send_76 : decode cX7_send 76 = .ok (.getfield 16, 3) := by decide +kernel
theorem dX7_send_79 : decode cX7_send 79 = .ok (.iload_n 2, 1) := by decide +kernel
theorem dX7_send_80 : decode cX7_send 80 = .ok (.invokevirtual 101, 3) := by decide +kernel
theorem dX7_send_83 : decode cX7_send 83 = .ok (.iinc 2 1, 3) := by decide +kernel
theorem dX7_send_86 : decode cX7_send 86 = .ok (.goto (-41), 3) := by decide +kernel
theorem dX7_send_89 : decode cX7_send 89 = .ok (.aload_n 0, 1) := by decide +kernel
theorem dX7_send_90 : decode cX7_send 90 = .ok (.getfield 61, 3) := by decide +kernel
theorem dX7_send_93 : decode cX7_send 93 = .ok (.new 169, 3) := by decide +kernel
theorem dX7_send_96 : decode cX7_send 96 = .ok (.dup, 1) := by decide +kernel
theorem dX7_send_97 : decode cX7_send 97 = .ok (.aload_n 1, 1) := by decide +kernel
theorem dX7_send_98 : decode cX7_send 98 = .ok (.aload_n 0, 1) := by decide +kernel
theorem dX7_send_99 : decode cX7_send 99 = .ok (.getfield 9, 3) := by decide +kernel
theorem dX7_send_102 : decode cX7_send 102 = .ok (.aload_n 0, 1) := by decide +kernel
theorem dX7_send_103 : decode cX7_send 103 = .ok (.getfield 65, 3) := by decide +kernel
theorem dX7_send_106 : decode cX7_send 106 = .ok (.invokestatic 163, 3) := by decide +kernel
theorem dX7_send_109 : decode cX7_send 109 = .ok (.aload_n 0, 1) := by decide +kernel
theorem dX7_send_110 : decode cX7_send 110 = .ok (.getfield 69, 3) := by decide +kernel
theorem dX7_send_113 : decode cX7_send 113 = .ok (.invokespecial 171, 3) := by decide +kernel
theorem dX7_send_116 : decode cX7_send 116 = .ok (.invokevirtual 174, 3) := by decide +kernel
theorem dX7_send_119 : decode cX7_send 119 = .ok (.pop, 1) := by decide +kernel
theorem dX7_send_120 : decode cX7_send 120 = .ok (.aload_n 0, 1) := by decide +kernel
theorem dX7_send_121 : decode cX7_send 121 = .ok (.invokevirtual 177, 3) := by decide +kernel
theorem dX7_send_124 : decode cX7_send 124 = .ok (.aload_n 0, 1) := by decide +kernel
theorem dX7_send_125 : decode cX7_send 125 = .ok (.getfield 61, 3) := by decide +kernel
theorem dX7_send_128 : decode cX7_send 128 = .ok (.invokevirtual 160, 3) := by decide +kernel
theorem dX7_send_131 : decode cX7_send 131 = .ok (.iconst 1, 1) := by decide +kernel
theorem dX7_send_132 : decode cX7_send 132 = .ok (.isub, 1) := by decide +kernel
theorem dX7_send_133 : decode cX7_send 133 = .ok (.ireturn, 1) := by decide +kernel
theorem dX7_giveUp_0 : decode cX7_giveUp 0 = .ok (.aload_n 0, 1) := by decide +kernel
theorem dX7_giveUp_1 : decode cX7_giveUp 1 = .ok (.invokevirtual 72, 3) := by decide +kernel
theorem dX7_giveUp_4 : decode cX7_giveUp 4 = .ok (.ifCond .ne 5, 3) := by decide +kernel
theorem dX7_giveUp_7 : decode cX7_giveUp 7 = .ok (.iconst 0, 1) := by decide +kernel
theorem dX7_giveUp_8 : decode cX7_giveUp 8 = .ok (.ireturn, 1) := by decide +kernel
theorem dX7_giveUp_9 : decode cX7_giveUp 9 = .ok (.aload_n 0, 1) := by decide +kernel
theorem dX7_giveUp_10 : decode cX7_giveUp 10 = .ok (.invokevirtual 177, 3) := by decide +kernel
theorem dX7_giveUp_13 : decode cX7_giveUp 13 = .ok (.iconst 1, 1) := by decide +kernel
theorem dX7_giveUp_14 : decode cX7_giveUp 14 = .ok (.ireturn, 1) := by decide +kernel
theorem dX7_oneWay_0 : decode cX7_oneWay 0 = .ok (.aload_n 0, 1) := by decide +kernel
theorem dX7_oneWay_1 : decode cX7_oneWay 1 = .ok (.iload_n 1, 1) := by decide +kernel
theorem dX7_oneWay_2 : decode cX7_oneWay 2 = .ok (.invokevirtual 80, 3) := by decide +kernel
theorem dX7_oneWay_5 : decode cX7_oneWay 5 = .ok (.ifCond .eq 10, 3) := by decide +kernel
theorem dX7_oneWay_8 : decode cX7_oneWay 8 = .ok (.iload_n 2, 1) := by decide +kernel
theorem dX7_oneWay_9 : decode cX7_oneWay 9 = .ok (.invokestatic 76, 3) := by decide +kernel
theorem dX7_oneWay_12 : decode cX7_oneWay 12 = .ok (.ifCond .ne 5, 3) := by decide +kernel
theorem dX7_oneWay_15 : decode cX7_oneWay 15 = .ok (.iconst 0, 1) := by decide +kernel
theorem dX7_oneWay_16 : decode cX7_oneWay 16 = .ok (.ireturn, 1) := by decide +kernel
theorem dX7_oneWay_17 : decode cX7_oneWay 17 = .ok (.iload_n 3, 1) := by decide +kernel
theorem dX7_oneWay_18 : decode cX7_oneWay 18 = .ok (.ifCond .eq 15, 3) := by decide +kernel
theorem dX7_oneWay_21 : decode cX7_oneWay 21 = .ok (.aload_n 0, 1) := by decide +kernel
theorem dX7_oneWay_22 : decode cX7_oneWay 22 = .ok (.getfield 54, 3) := by decide +kernel
theorem dX7_oneWay_25 : decode cX7_oneWay 25 = .ok (.iload_n 1, 1) := by decide +kernel
theorem dX7_oneWay_26 : decode cX7_oneWay 26 = .ok (.iload_n 2, 1) := by decide +kernel
theorem dX7_oneWay_27 : decode cX7_oneWay 27 = .ok (.invokevirtual 180, 3) := by decide +kernel
theorem dX7_oneWay_30 : decode cX7_oneWay 30 = .ok (.goto 12, 3) := by decide +kernel
theorem dX7_oneWay_33 : decode cX7_oneWay 33 = .ok (.aload_n 0, 1) := by decide +kernel
theorem dX7_oneWay_34 : decode cX7_oneWay 34 = .ok (.getfield 54, 3) := by decide +kernel
theorem dX7_oneWay_37 : decode cX7_oneWay 37 = .ok (.iload_n 1, 1) := by decide +kernel
theorem dX7_oneWay_38 : decode cX7_oneWay 38 = .ok (.iload_n 2, 1) := by decide +kernel
theorem dX7_oneWay_39 : decode cX7_oneWay 39 = .ok (.invokevirtual 183, 3) := by decide +kernel
theorem dX7_oneWay_42 : decode cX7_oneWay 42 = .ok (.ireturn, 1) := by decide +kernel
theorem dX7_back_0 : decode cX7_back 0 = .ok (.aload_n 0, 1) := by decide +kernel
theorem dX7_back_1 : decode cX7_back 1 = .ok (.invokevirtual 186, 3) := by decide +kernel
theorem dX7_back_4 : decode cX7_back 4 = .ok (.istore_n 1, 1) := by decide +kernel
theorem dX7_back_5 : decode cX7_back 5 = .ok (.aload_n 0, 1) := by decide +kernel
theorem dX7_back_6 : decode cX7_back 6 = .ok (.invokevirtual 72, 3) := by decide +kernel
theorem dX7_back_9 : decode cX7_back 9 = .ok (.ifCond .ne 8, 3) := by decide +kernel
theorem dX7_back_12 : decode cX7_back 12 = .ok (.iload_n 1, 1) := by decide +kernel
theorem dX7_back_13 : decode cX7_back 13 = .ok (.iconst (-1), 1) := by decide +kernel
theorem dX7_back_14 : decode cX7_back 14 = .ok (.if_icmp .ne 5, 3) := by decide +kernel
theorem dX7_back_17 : decode cX7_back 17 = .ok (.iconst (-1), 1) := by decide +kernel
theorem dX7_back_18 : decode cX7_back 18 = .ok (.ireturn, 1) := by decide +kernel
theorem dX7_back_19 : decode cX7_back 19 = .ok (.aload_n 0, 1) := by decide +kernel
theorem dX7_back_20 : decode cX7_back 20 = .ok (.getfield 61, 3) := by decide +kernel
theorem dX7_back_23 : decode cX7_back 23 = .ok (.iload_n 1, 1) := by decide +kernel
theorem dX7_back_24 : decode cX7_back 24 = .ok (.invokevirtual 189, 3) := by decide +kernel
theorem dX7_back_27 : decode cX7_back 27 = .ok (.checkcast 169, 3) := by decide +kernel
theorem dX7_back_30 : decode cX7_back 30 = .ok (.astore_n 2, 1) := by decide +kernel
theorem dX7_back_31 : decode cX7_back 31 = .ok (.aload_n 0, 1) := by decide +kernel
theorem dX7_back_32 : decode cX7_back 32 = .ok (.aload_n 2, 1) := by decide +kernel
theorem dX7_back_33 : decode cX7_back 33 = .ok (.getfield 193, 3) := by decide +kernel
theorem dX7_back_36 : decode cX7_back 36 = .ok (.invokevirtual 196, 3) := by decide +kernel
theorem dX7_back_39 : decode cX7_back 39 = .ok (.ifCond .eq 5, 3) := by decide +kernel
theorem dX7_back_42 : decode cX7_back 42 = .ok (.iconst (-1), 1) := by decide +kernel
theorem dX7_back_43 : decode cX7_back 43 = .ok (.ireturn, 1) := by decide +kernel
theorem dX7_back_44 : decode cX7_back 44 = .ok (.aload_n 0, 1) := by decide +kernel
theorem dX7_back_45 : decode cX7_back 45 = .ok (.aload_n 2, 1) := by decide +kernel
theorem dX7_back_46 : decode cX7_back 46 = .ok (.getfield 199, 3) := by decide +kernel
theorem dX7_back_49 : decode cX7_back 49 = .ok (.aload_n 2, 1) := by decide +kernel
theorem dX7_back_50 : decode cX7_back 50 = .ok (.getfield 193, 3) := by decide +kernel
theorem dX7_back_53 : decode cX7_back 53 = .ok (.invokevirtual 202, 3) := by decide +kernel
theorem dX7_back_56 : decode cX7_back 56 = .ok (.aload_n 0, 1) := by decide +kernel
theorem dX7_back_57 : decode cX7_back 57 = .ok (.iconst 0, 1) := by decide +kernel
theorem dX7_back_58 : decode cX7_back 58 = .ok (.invokevirtual 118, 3) := by decide +kernel
theorem dX7_back_61 : decode cX7_back 61 = .ok (.iconst (-1), 1) := by decide +kernel
theorem dX7_back_62 : decode cX7_back 62 = .ok (.if_icmp .eq 17, 3) := by decide +kernel
theorem dX7_back_65 : decode cX7_back 65 = .ok (.aload_n 0, 1) := by decide +kernel
theorem dX7_back_66 : decode cX7_back 66 = .ok (.aload_n 2, 1) := by decide +kernel
theorem dX7_back_67 : decode cX7_back 67 = .ok (.getfield 206, 3) := by decide +kernel
theorem dX7_back_70 : decode cX7_back 70 = .ok (.aload_n 2, 1) := by decide +kernel
theorem dX7_back_71 : decode cX7_back 71 = .ok (.getfield 193, 3) := by decide +kernel
theorem dX7_back_74 : decode cX7_back 74 = .ok (.invokevirtual 202, 3) := by decide +kernel
theorem dX7_back_77 : decode cX7_back 77 = .ok (.iconst (-1), 1) := by decide +kernel
theorem dX7_back_78 : decode cX7_back 78 = .ok (.ireturn, 1) := by decide +kernel
theorem dX7_back_79 : decode cX7_back 79 = .ok (.aload_n 2, 1) := by decide +kernel
theorem dX7_back_80 : decode cX7_back 80 = .ok (.iconst 1, 1) := by decide +kernel
theorem dX7_back_81 : decode cX7_back 81 = .ok (.putfield 209, 3) := by decide +kernel
theorem dX7_back_84 : decode cX7_back 84 = .ok (.aload_n 0, 1) := by decide +kernel
theorem dX7_back_85 : decode cX7_back 85 = .ok (.invokevirtual 213, 3) := by decide +kernel
theorem dX7_back_88 : decode cX7_back 88 = .ok (.iload_n 1, 1) := by decide +kernel
theorem dX7_back_89 : decode cX7_back 89 = .ok (.ireturn, 1) := by decide +kernel
theorem dX7_blame_0 : decode cX7_blame 0 = .ok (.aload_n 0, 1) := by decide +kernel
theorem dX7_blame_1 : decode cX7_blame 1 = .ok (.iload_n 1, 1) := by decide +kernel
theorem dX7_blame_2 : decode cX7_blame 2 = .ok (.invokevirtual 109, 3) := by decide +kernel
theorem dX7_blame_5 : decode cX7_blame 5 = .ok (.ifCond .ne 5, 3) := by decide +kernel
theorem dX7_blame_8 : decode cX7_blame 8 = .ok (.iconst (-1), 1) := by decide +kernel
theorem dX7_blame_9 : decode cX7_blame 9 = .ok (.ireturn, 1) := by decide +kernel
theorem dX7_blame_10 : decode cX7_blame 10 = .ok (.aload_n 0, 1) := by decide +kernel
theorem dX7_blame_11 : decode cX7_blame 11 = .ok (.getfield 47, 3) := by decide +kernel
theorem dX7_blame_14 : decode cX7_blame 14 = .ok (.aload_n 0, 1) := by decide +kernel
theorem dX7_blame_15 : decode cX7_blame 15 = .ok (.getfield 33, 3) := by decide +kernel
theorem dX7_blame_18 : decode cX7_blame 18 = .ok (.iload_n 1, 1) := by decide +kernel
theorem dX7_blame_19 : decode cX7_blame 19 = .ok (.invokevirtual 216, 3) := by decide +kernel
theorem dX7_blame_22 : decode cX7_blame 22 = .ok (.aload_n 0, 1) := by decide +kernel
theorem dX7_blame_23 : decode cX7_blame 23 = .ok (.getfield 47, 3) := by decide +kernel
theorem dX7_blame_26 : decode cX7_blame 26 = .ok (.getfield 220, 3) := by decide +kernel
theorem dX7_blame_29 : decode cX7_blame 29 = .ok (.ireturn, 1) := by decide +kernel
theorem dX7_runs_0 : decode cX7_runs 0 = .ok (.aload_n 0, 1) := by decide +kernel
theorem dX7_runs_1 : decode cX7_runs 1 = .ok (.iload_n 1, 1) := by decide +kernel
theorem dX7_runs_2 : decode cX7_runs 2 = .ok (.invokevirtual 109, 3) := by decide +kernel
theorem dX7_runs_5 : decode cX7_runs 5 = .ok (.ifCond .ne 5, 3) := by decide +kernel
theorem dX7_runs_8 : decode cX7_runs 8 = .ok (.iconst (-1), 1) := by decide +kernel
theorem dX7_runs_9 : decode cX7_runs 9 = .ok (.ireturn, 1) := by decide +kernel
theorem dX7_runs_10 : decode cX7_runs 10 = .ok (.aload_n 0, 1) := by decide +kernel
theorem dX7_runs_11 : decode cX7_runs 11 = .ok (.getfield 47, 3) := by decide +kernel
theorem dX7_runs_14 : decode cX7_runs 14 = .ok (.aload_n 0, 1) := by decide +kernel
theorem dX7_runs_15 : decode cX7_runs 15 = .ok (.getfield 33, 3) := by decide +kernel
theorem dX7_runs_18 : decode cX7_runs 18 = .ok (.iload_n 1, 1) := by decide +kernel
theorem dX7_runs_19 : decode cX7_runs 19 = .ok (.invokevirtual 216, 3) := by decide +kernel
theorem dX7_runs_22 : decode cX7_runs 22 = .ok (.aload_n 0, 1) := by decide +kernel
theorem dX7_runs_23 : decode cX7_runs 23 = .ok (.getfield 47, 3) := by decide +kernel
theorem dX7_runs_26 : decode cX7_runs 26 = .ok (.getfield 223, 3) := by decide +kernel
theorem dX7_runs_29 : decode cX7_runs 29 = .ok (.ireturn, 1) := by decide +kernel
theorem dX7_told_0 : decode cX7_told 0 = .ok (.aload_n 0, 1) := by decide +kernel
theorem dX7_told_1 : decode cX7_told 1 = .ok (.iload_n 1, 1) := by decide +kernel
theorem dX7_told_2 : decode cX7_told 2 = .ok (.invokevirtual 80, 3) := by decide +kernel
theorem dX7_told_5 : decode cX7_told 5 = .ok (.ifCond .ne 5, 3) := by decide +kernel
theorem dX7_told_8 : decode cX7_told 8 = .ok (.iconst (-1), 1) := by decide +kernel
theorem dX7_told_9 : decode cX7_told 9 = .ok (.ireturn, 1) := by decide +kernel
theorem dX7_told_10 : decode cX7_told 10 = .ok (.iload_n 2, 1) := by decide +kernel
theorem dX7_told_11 : decode cX7_told 11 = .ok (.tableswitch 76 0 4 #[33, 40, 49, 58, 67], 33) := by decide +kernel
theorem dX7_told_44 : decode cX7_told 44 = .ok (.aload_n 0, 1) := by decide +kernel
theorem dX7_told_45 : decode cX7_told 45 = .ok (.getfield 9, 3) := by decide +kernel
theorem dX7_told_48 : decode cX7_told 48 = .ok (.iload_n 1, 1) := by decide +kernel
theorem dX7_told_49 : decode cX7_told 49 = .ok (.iaload, 1) := by decide +kernel
theorem dX7_told_50 : decode cX7_told 50 = .ok (.ireturn, 1) := by decide +kernel
theorem dX7_told_51 : decode cX7_told 51 = .ok (.aload_n 0, 1) := by decide +kernel
theorem dX7_told_52 : decode cX7_told 52 = .ok (.getfield 16, 3) := by decide +kernel
theorem dX7_told_55 : decode cX7_told 55 = .ok (.iload_n 1, 1) := by decide +kernel
theorem dX7_told_56 : decode cX7_told 56 = .ok (.invokevirtual 141, 3) := by decide +kernel
theorem dX7_told_59 : decode cX7_told 59 = .ok (.ireturn, 1) := by decide +kernel
theorem dX7_told_60 : decode cX7_told 60 = .ok (.aload_n 0, 1) := by decide +kernel
theorem dX7_told_61 : decode cX7_told 61 = .ok (.getfield 16, 3) := by decide +kernel
theorem dX7_told_64 : decode cX7_told 64 = .ok (.iload_n 1, 1) := by decide +kernel
theorem dX7_told_65 : decode cX7_told 65 = .ok (.invokevirtual 144, 3) := by decide +kernel
theorem dX7_told_68 : decode cX7_told 68 = .ok (.ireturn, 1) := by decide +kernel
theorem dX7_told_69 : decode cX7_told 69 = .ok (.aload_n 0, 1) := by decide +kernel
theorem dX7_told_70 : decode cX7_told 70 = .ok (.getfield 20, 3) := by decide +kernel
theorem dX7_told_73 : decode cX7_told 73 = .ok (.iload_n 1, 1) := by decide +kernel
theorem dX7_told_74 : decode cX7_told 74 = .ok (.invokevirtual 141, 3) := by decide +kernel
theorem dX7_told_77 : decode cX7_told 77 = .ok (.ireturn, 1) := by decide +kernel
theorem dX7_told_78 : decode cX7_told 78 = .ok (.aload_n 0, 1) := by decide +kernel
theorem dX7_told_79 : decode cX7_told 79 = .ok (.getfield 20, 3) := by decide +kernel
theorem dX7_told_82 : decode cX7_told 82 = .ok (.iload_n 1, 1) := by decide +kernel
theorem dX7_told_83 : decode cX7_told 83 = .ok (.invokevirtual 144, 3) := by decide +kernel
theorem dX7_told_86 : decode cX7_told 86 = .ok (.ireturn, 1) := by decide +kernel
theorem dX7_told_87 : decode cX7_told 87 = .ok (.iconst (-1), 1) := by decide +kernel
theorem dX7_told_88 : decode cX7_told 88 = .ok (.ireturn, 1) := by decide +kernel
theorem dX7_was_0 : decode cX7_was 0 = .ok (.aload_n 0, 1) := by decide +kernel
theorem dX7_was_1 : decode cX7_was 1 = .ok (.iload_n 1, 1) := by decide +kernel
theorem dX7_was_2 : decode cX7_was 2 = .ok (.invokevirtual 226, 3) := by decide +kernel
theorem dX7_was_5 : decode cX7_was 5 = .ok (.ifCond .ne 13, 3) := by decide +kernel
theorem dX7_was_8 : decode cX7_was 8 = .ok (.new 229, 3) := by decide +kernel
theorem dX7_was_11 : decode cX7_was 11 = .ok (.dup, 1) := by decide +kernel
theorem dX7_was_12 : decode cX7_was 12 = .ok (.ldc 231, 2) := by decide +kernel
theorem dX7_was_14 : decode cX7_was 14 = .ok (.invokespecial 233, 3) := by decide +kernel
theorem dX7_was_17 : decode cX7_was 17 = .ok (.athrow, 1) := by decide +kernel
theorem dX7_was_18 : decode cX7_was 18 = .ok (.aload_n 0, 1) := by decide +kernel
theorem dX7_was_19 : decode cX7_was 19 = .ok (.getfield 61, 3) := by decide +kernel
theorem dX7_was_22 : decode cX7_was 22 = .ok (.iload_n 1, 1) := by decide +kernel
theorem dX7_was_23 : decode cX7_was 23 = .ok (.invokevirtual 189, 3) := by decide +kernel
theorem dX7_was_26 : decode cX7_was 26 = .ok (.checkcast 169, 3) := by decide +kernel
theorem dX7_was_29 : decode cX7_was 29 = .ok (.astore 4, 2) := by decide +kernel
theorem dX7_was_31 : decode cX7_was 31 = .ok (.iload_n 3, 1) := by decide +kernel
theorem dX7_was_32 : decode cX7_was 32 = .ok (.ifCond .eq 11, 3) := by decide +kernel
theorem dX7_was_35 : decode cX7_was 35 = .ok (.aload 4, 2) := by decide +kernel
theorem dX7_was_37 : decode cX7_was 37 = .ok (.getfield 206, 3) := by decide +kernel
theorem dX7_was_40 : decode cX7_was 40 = .ok (.goto 8, 3) := by decide +kernel
theorem dX7_was_43 : decode cX7_was 43 = .ok (.aload 4, 2) := by decide +kernel
theorem dX7_was_45 : decode cX7_was 45 = .ok (.getfield 199, 3) := by decide +kernel
theorem dX7_was_48 : decode cX7_was 48 = .ok (.astore 5, 2) := by decide +kernel
theorem dX7_was_50 : decode cX7_was 50 = .ok (.iload_n 2, 1) := by decide +kernel
theorem dX7_was_51 : decode cX7_was 51 = .ok (.ifCond .lt 10, 3) := by decide +kernel
theorem dX7_was_54 : decode cX7_was 54 = .ok (.iload_n 2, 1) := by decide +kernel
theorem dX7_was_55 : decode cX7_was 55 = .ok (.aload 5, 2) := by decide +kernel
theorem dX7_was_57 : decode cX7_was 57 = .ok (.arraylength, 1) := by decide +kernel
theorem dX7_was_58 : decode cX7_was 58 = .ok (.if_icmp .lt 13, 3) := by decide +kernel
theorem dX7_was_61 : decode cX7_was 61 = .ok (.new 229, 3) := by decide +kernel
theorem dX7_was_64 : decode cX7_was 64 = .ok (.dup, 1) := by decide +kernel
theorem dX7_was_65 : decode cX7_was 65 = .ok (.ldc 236, 2) := by decide +kernel
theorem dX7_was_67 : decode cX7_was 67 = .ok (.invokespecial 233, 3) := by decide +kernel
theorem dX7_was_70 : decode cX7_was 70 = .ok (.athrow, 1) := by decide +kernel
theorem dX7_was_71 : decode cX7_was 71 = .ok (.aload 5, 2) := by decide +kernel
theorem dX7_was_73 : decode cX7_was 73 = .ok (.iload_n 2, 1) := by decide +kernel
theorem dX7_was_74 : decode cX7_was 74 = .ok (.iaload, 1) := by decide +kernel
theorem dX7_was_75 : decode cX7_was 75 = .ok (.ireturn, 1) := by decide +kernel
theorem dX7_brought_0 : decode cX7_brought 0 = .ok (.aload_n 0, 1) := by decide +kernel
theorem dX7_brought_1 : decode cX7_brought 1 = .ok (.iload_n 1, 1) := by decide +kernel
theorem dX7_brought_2 : decode cX7_brought 2 = .ok (.invokevirtual 226, 3) := by decide +kernel
theorem dX7_brought_5 : decode cX7_brought 5 = .ok (.ifCond .eq 20, 3) := by decide +kernel
theorem dX7_brought_8 : decode cX7_brought 8 = .ok (.aload_n 0, 1) := by decide +kernel
theorem dX7_brought_9 : decode cX7_brought 9 = .ok (.getfield 61, 3) := by decide +kernel
theorem dX7_brought_12 : decode cX7_brought 12 = .ok (.iload_n 1, 1) := by decide +kernel
theorem dX7_brought_13 : decode cX7_brought 13 = .ok (.invokevirtual 189, 3) := by decide +kernel
theorem dX7_brought_16 : decode cX7_brought 16 = .ok (.checkcast 169, 3) := by decide +kernel
theorem dX7_brought_19 : decode cX7_brought 19 = .ok (.getfield 193, 3) := by decide +kernel
theorem dX7_brought_22 : decode cX7_brought 22 = .ok (.goto 4, 3) := by decide +kernel
theorem dX7_brought_25 : decode cX7_brought 25 = .ok (.iconst (-1), 1) := by decide +kernel
theorem dX7_brought_26 : decode cX7_brought 26 = .ok (.ireturn, 1) := by decide +kernel
theorem dX7_count_0 : decode cX7_count 0 = .ok (.iload_n 1, 1) := by decide +kernel
theorem dX7_count_1 : decode cX7_count 1 = .ok (.tableswitch 132 0 8 #[51, 56, 64, 72, 80, 85, 96, 104, 117], 51) := by decide +kernel
theorem dX7_count_52 : decode cX7_count 52 = .ok (.aload_n 0, 1) := by decide +kernel
theorem dX7_count_53 : decode cX7_count 53 = .ok (.getfield 65, 3) := by decide +kernel
theorem dX7_count_56 : decode cX7_count 56 = .ok (.ireturn, 1) := by decide +kernel
theorem dX7_count_57 : decode cX7_count 57 = .ok (.aload_n 0, 1) := by decide +kernel
theorem dX7_count_58 : decode cX7_count 58 = .ok (.getfield 26, 3) := by decide +kernel
theorem dX7_count_61 : decode cX7_count 61 = .ok (.getfield 238, 3) := by decide +kernel
theorem dX7_count_64 : decode cX7_count 64 = .ok (.ireturn, 1) := by decide +kernel
theorem dX7_count_65 : decode cX7_count 65 = .ok (.aload_n 0, 1) := by decide +kernel
theorem dX7_count_66 : decode cX7_count 66 = .ok (.getfield 33, 3) := by decide +kernel
theorem dX7_count_69 : decode cX7_count 69 = .ok (.getfield 240, 3) := by decide +kernel
theorem dX7_count_72 : decode cX7_count 72 = .ok (.ireturn, 1) := by decide +kernel
theorem dX7_count_73 : decode cX7_count 73 = .ok (.aload_n 0, 1) := by decide +kernel
theorem dX7_count_74 : decode cX7_count 74 = .ok (.getfield 61, 3) := by decide +kernel
theorem dX7_count_77 : decode cX7_count 77 = .ok (.invokevirtual 160, 3) := by decide +kernel
theorem dX7_count_80 : decode cX7_count 80 = .ok (.ireturn, 1) := by decide +kernel
theorem dX7_count_81 : decode cX7_count 81 = .ok (.aload_n 0, 1) := by decide +kernel
theorem dX7_count_82 : decode cX7_count 82 = .ok (.invokevirtual 241, 3) := by decide +kernel
theorem dX7_count_85 : decode cX7_count 85 = .ok (.ireturn, 1) := by decide +kernel
theorem dX7_count_86 : decode cX7_count 86 = .ok (.aload_n 0, 1) := by decide +kernel
theorem dX7_count_87 : decode cX7_count 87 = .ok (.getfield 16, 3) := by decide +kernel
theorem dX7_count_90 : decode cX7_count 90 = .ok (.invokevirtual 114, 3) := by decide +kernel
theorem dX7_count_93 : decode cX7_count 93 = .ok (.invokestatic 244, 3) := by decide +kernel
theorem dX7_count_96 : decode cX7_count 96 = .ok (.ireturn, 1) := by decide +kernel
theorem dX7_count_97 : decode cX7_count 97 = .ok (.aload_n 0, 1) := by decide +kernel
theorem dX7_count_98 : decode cX7_count 98 = .ok (.getfield 54, 3) := by decide +kernel
theorem dX7_count_101 : decode cX7_count 101 = .ok (.getfield 249, 3) := by decide +kernel
theorem dX7_count_104 : decode cX7_count 104 = .ok (.ireturn, 1) := by decide +kernel
theorem dX7_count_105 : decode cX7_count 105 = .ok (.aload_n 0, 1) := by decide +kernel
theorem dX7_count_106 : decode cX7_count 106 = .ok (.invokevirtual 72, 3) := by decide +kernel
theorem dX7_count_109 : decode cX7_count 109 = .ok (.ifCond .eq 7, 3) := by decide +kernel
theorem dX7_count_112 : decode cX7_count 112 = .ok (.iconst 1, 1) := by decide +kernel
theorem dX7_count_113 : decode cX7_count 113 = .ok (.goto 4, 3) := by decide +kernel
theorem dX7_count_116 : decode cX7_count 116 = .ok (.iconst 0, 1) := by decide +kernel
theorem dX7_count_117 : decode cX7_count 117 = .ok (.ireturn, 1) := by decide +kernel
theorem dX7_count_118 : decode cX7_count 118 = .ok (.aload_n 0, 1) := by decide +kernel
theorem dX7_count_119 : decode cX7_count 119 = .ok (.iconst 0, 1) := by decide +kernel
theorem dX7_count_120 : decode cX7_count 120 = .ok (.invokevirtual 118, 3) := by decide +kernel
theorem dX7_count_123 : decode cX7_count 123 = .ok (.iconst (-1), 1) := by decide +kernel
theorem dX7_count_124 : decode cX7_count 124 = .ok (.if_icmp .ne 7, 3) := by decide +kernel
theorem dX7_count_127 : decode cX7_count 127 = .ok (.iconst 1, 1) := by decide +kernel
theorem dX7_count_128 : decode cX7_count 128 = .ok (.goto 4, 3) := by decide +kernel
theorem dX7_count_131 : decode cX7_count 131 = .ok (.iconst 0, 1) := by decide +kernel
theorem dX7_count_132 : decode cX7_count 132 = .ok (.ireturn, 1) := by decide +kernel
theorem dX7_count_133 : decode cX7_count 133 = .ok (.iconst (-1), 1) := by decide +kernel
theorem dX7_count_134 : decode cX7_count 134 = .ok (.ireturn, 1) := by decide +kernel
theorem dX7_isVersion_0 : decode cX7_isVersion 0 = .ok (.iload_n 0, 1) := by decide +kernel
theorem dX7_isVersion_1 : decode cX7_isVersion 1 = .ok (.ifCond .lt 14, 3) := by decide +kernel
theorem dX7_isVersion_4 : decode cX7_isVersion 4 = .ok (.iload_n 0, 1) := by decide +kernel
theorem dX7_isVersion_5 : decode cX7_isVersion 5 = .ok (.sipush 1000, 3) := by decide +kernel
theorem dX7_isVersion_8 : decode cX7_isVersion 8 = .ok (.if_icmp .gt 7, 3) := by decide +kernel
theorem dX7_isVersion_11 : decode cX7_isVersion 11 = .ok (.iconst 1, 1) := by decide +kernel
theorem dX7_isVersion_12 : decode cX7_isVersion 12 = .ok (.goto 4, 3) := by decide +kernel
theorem dX7_isVersion_15 : decode cX7_isVersion 15 = .ok (.iconst 0, 1) := by decide +kernel
theorem dX7_isVersion_16 : decode cX7_isVersion 16 = .ok (.ireturn, 1) := by decide +kernel
theorem dX7_isWorth_0 : decode cX7_isWorth 0 = .ok (.iload_n 0, 1) := by decide +kernel
theorem dX7_isWorth_1 : decode cX7_isWorth 1 = .ok (.iconst 1, 1) := by decide +kernel
theorem dX7_isWorth_2 : decode cX7_isWorth 2 = .ok (.if_icmp .lt 14, 3) := by decide +kernel
theorem dX7_isWorth_5 : decode cX7_isWorth 5 = .ok (.iload_n 0, 1) := by decide +kernel
theorem dX7_isWorth_6 : decode cX7_isWorth 6 = .ok (.sipush 1000, 3) := by decide +kernel
theorem dX7_isWorth_9 : decode cX7_isWorth 9 = .ok (.if_icmp .gt 7, 3) := by decide +kernel
theorem dX7_isWorth_12 : decode cX7_isWorth 12 = .ok (.iconst 1, 1) := by decide +kernel
theorem dX7_isWorth_13 : decode cX7_isWorth 13 = .ok (.goto 4, 3) := by decide +kernel
theorem dX7_isWorth_16 : decode cX7_isWorth 16 = .ok (.iconst 0, 1) := by decide +kernel
theorem dX7_isWorth_17 : decode cX7_isWorth 17 = .ok (.ireturn, 1) := by decide +kernel
theorem dX7_isPart_0 : decode cX7_isPart 0 = .ok (.iload_n 1, 1) := by decide +kernel
theorem dX7_isPart_1 : decode cX7_isPart 1 = .ok (.ifCond .lt 15, 3) := by decide +kernel
theorem dX7_isPart_4 : decode cX7_isPart 4 = .ok (.iload_n 1, 1) := by decide +kernel
theorem dX7_isPart_5 : decode cX7_isPart 5 = .ok (.aload_n 0, 1) := by decide +kernel
theorem dX7_isPart_6 : decode cX7_isPart 6 = .ok (.getfield 65, 3) := by decide +kernel
theorem dX7_isPart_9 : decode cX7_isPart 9 = .ok (.if_icmp .ge 7, 3) := by decide +kernel
theorem dX7_isPart_12 : decode cX7_isPart 12 = .ok (.iconst 1, 1) := by decide +kernel
theorem dX7_isPart_13 : decode cX7_isPart 13 = .ok (.goto 4, 3) := by decide +kernel
theorem dX7_isPart_16 : decode cX7_isPart 16 = .ok (.iconst 0, 1) := by decide +kernel
theorem dX7_isPart_17 : decode cX7_isPart 17 = .ok (.ireturn, 1) := by decide +kernel
theorem dX7_areParts_0 : decode cX7_areParts 0 = .ok (.iload_n 1, 1) := by decide +kernel
theorem dX7_areParts_1 : decode cX7_areParts 1 = .ok (.iconst 1, 1) := by decide +kernel
theorem dX7_areParts_2 : decode cX7_areParts 2 = .ok (.aload_n 0, 1) := by decide +kernel
theorem dX7_areParts_3 : decode cX7_areParts 3 = .ok (.getfield 65, 3) := by decide +kernel
theorem dX7_areParts_6 : decode cX7_areParts 6 = .ok (.ishl, 1) := by decide +kernel
theorem dX7_areParts_7 : decode cX7_areParts 7 = .ok (.iconst 1, 1) := by decide +kernel
theorem dX7_areParts_8 : decode cX7_areParts 8 = .ok (.isub, 1) := by decide +kernel
theorem dX7_areParts_9 : decode cX7_areParts 9 = .ok (.iconst (-1), 1) := by decide +kernel
theorem dX7_areParts_10 : decode cX7_areParts 10 = .ok (.ixor, 1) := by decide +kernel
theorem dX7_areParts_11 : decode cX7_areParts 11 = .ok (.iand, 1) := by decide +kernel
theorem dX7_areParts_12 : decode cX7_areParts 12 = .ok (.ifCond .ne 7, 3) := by decide +kernel
theorem dX7_areParts_15 : decode cX7_areParts 15 = .ok (.iconst 1, 1) := by decide +kernel
theorem dX7_areParts_16 : decode cX7_areParts 16 = .ok (.goto 4, 3) := by decide +kernel
theorem dX7_areParts_19 : decode cX7_areParts 19 = .ok (.iconst 0, 1) := by decide +kernel
theorem dX7_areParts_20 : decode cX7_areParts 20 = .ok (.ireturn, 1) := by decide +kernel
theorem dX7_isTrain_0 : decode cX7_isTrain 0 = .ok (.iload_n 1, 1) := by decide +kernel
theorem dX7_isTrain_1 : decode cX7_isTrain 1 = .ok (.ifCond .lt 18, 3) := by decide +kernel
theorem dX7_isTrain_4 : decode cX7_isTrain 4 = .ok (.iload_n 1, 1) := by decide +kernel
theorem dX7_isTrain_5 : decode cX7_isTrain 5 = .ok (.aload_n 0, 1) := by decide +kernel
theorem dX7_isTrain_6 : decode cX7_isTrain 6 = .ok (.getfield 61, 3) := by decide +kernel
theorem dX7_isTrain_9 : decode cX7_isTrain 9 = .ok (.invokevirtual 160, 3) := by decide +kernel
theorem dX7_isTrain_12 : decode cX7_isTrain 12 = .ok (.if_icmp .ge 7, 3) := by decide +kernel
theorem dX7_isTrain_15 : decode cX7_isTrain 15 = .ok (.iconst 1, 1) := by decide +kernel
theorem dX7_isTrain_16 : decode cX7_isTrain 16 = .ok (.goto 4, 3) := by decide +kernel
theorem dX7_isTrain_19 : decode cX7_isTrain 19 = .ok (.iconst 0, 1) := by decide +kernel
theorem dX7_isTrain_20 : decode cX7_isTrain 20 = .ok (.ireturn, 1) := by decide +kernel
theorem dX7_isCutAtHand_0 : decode cX7_isCutAtHand 0 = .ok (.aload_n 0, 1) := by decide +kernel
theorem dX7_isCutAtHand_1 : decode cX7_isCutAtHand 1 = .ok (.getfield 69, 3) := by decide +kernel
theorem dX7_isCutAtHand_4 : decode cX7_isCutAtHand 4 = .ok (.iconst (-1), 1) := by decide +kernel
theorem dX7_isCutAtHand_5 : decode cX7_isCutAtHand 5 = .ok (.if_icmp .eq 7, 3) := by decide +kernel
theorem dX7_isCutAtHand_8 : decode cX7_isCutAtHand 8 = .ok (.iconst 1, 1) := by decide +kernel
theorem dX7_isCutAtHand_9 : decode cX7_isCutAtHand 9 = .ok (.goto 4, 3) := by decide +kernel
theorem dX7_isCutAtHand_12 : decode cX7_isCutAtHand 12 = .ok (.iconst 0, 1) := by decide +kernel
theorem dX7_isCutAtHand_13 : decode cX7_isCutAtHand 13 = .ok (.ireturn, 1) := by decide +kernel
theorem dX7_isChosen_0 : decode cX7_isChosen 0 = .ok (.aload_n 0, 1) := by decide +kernel
theorem dX7_isChosen_1 : decode cX7_isChosen 1 = .ok (.invokevirtual 72, 3) := by decide +kernel
theorem dX7_isChosen_4 : decode cX7_isChosen 4 = .ok (.ifCond .eq 18, 3) := by decide +kernel
theorem dX7_isChosen_7 : decode cX7_isChosen 7 = .ok (.aload_n 0, 1) := by decide +kernel
theorem dX7_isChosen_8 : decode cX7_isChosen 8 = .ok (.getfield 69, 3) := by decide +kernel
theorem dX7_isChosen_11 : decode cX7_isChosen 11 = .ok (.iload_n 1, 1) := by decide +kernel
theorem dX7_isChosen_12 : decode cX7_isChosen 12 = .ok (.ishr, 1) := by decide +kernel
theorem dX7_isChosen_13 : decode cX7_isChosen 13 = .ok (.iconst 1, 1) := by decide +kernel
theorem dX7_isChosen_14 : decode cX7_isChosen 14 = .ok (.iand, 1) := by decide +kernel
theorem dX7_isChosen_15 : decode cX7_isChosen 15 = .ok (.ifCond .eq 7, 3) := by decide +kernel
theorem dX7_isChosen_18 : decode cX7_isChosen 18 = .ok (.iconst 1, 1) := by decide +kernel
theorem dX7_isChosen_19 : decode cX7_isChosen 19 = .ok (.goto 4, 3) := by decide +kernel
theorem dX7_isChosen_22 : decode cX7_isChosen 22 = .ok (.iconst 0, 1) := by decide +kernel
theorem dX7_isChosen_23 : decode cX7_isChosen 23 = .ok (.ireturn, 1) := by decide +kernel
theorem dX7_homeToCome_0 : decode cX7_homeToCome 0 = .ok (.aload_n 0, 1) := by decide +kernel
theorem dX7_homeToCome_1 : decode cX7_homeToCome 1 = .ok (.iload_n 1, 1) := by decide +kernel
theorem dX7_homeToCome_2 : decode cX7_homeToCome 2 = .ok (.invokevirtual 134, 3) := by decide +kernel
theorem dX7_homeToCome_5 : decode cX7_homeToCome 5 = .ok (.ifCond .eq 14, 3) := by decide +kernel
theorem dX7_homeToCome_8 : decode cX7_homeToCome 8 = .ok (.aload_n 0, 1) := by decide +kernel
theorem dX7_homeToCome_9 : decode cX7_homeToCome 9 = .ok (.getfield 16, 3) := by decide +kernel
theorem dX7_homeToCome_12 : decode cX7_homeToCome 12 = .ok (.iload_n 1, 1) := by decide +kernel
theorem dX7_homeToCome_13 : decode cX7_homeToCome 13 = .ok (.invokevirtual 141, 3) := by decide +kernel
theorem dX7_homeToCome_16 : decode cX7_homeToCome 16 = .ok (.goto 9, 3) := by decide +kernel
theorem dX7_homeToCome_19 : decode cX7_homeToCome 19 = .ok (.aload_n 0, 1) := by decide +kernel
theorem dX7_homeToCome_20 : decode cX7_homeToCome 20 = .ok (.getfield 9, 3) := by decide +kernel
theorem dX7_homeToCome_23 : decode cX7_homeToCome 23 = .ok (.iload_n 1, 1) := by decide +kernel
theorem dX7_homeToCome_24 : decode cX7_homeToCome 24 = .ok (.iaload, 1) := by decide +kernel
theorem dX7_homeToCome_25 : decode cX7_homeToCome 25 = .ok (.ireturn, 1) := by decide +kernel
theorem dX7_openOffers_0 : decode cX7_openOffers 0 = .ok (.aload_n 0, 1) := by decide +kernel
theorem dX7_openOffers_1 : decode cX7_openOffers 1 = .ok (.invokevirtual 72, 3) := by decide +kernel
theorem dX7_openOffers_4 : decode cX7_openOffers 4 = .ok (.ifCond .eq 10, 3) := by decide +kernel
theorem dX7_openOffers_7 : decode cX7_openOffers 7 = .ok (.aload_n 0, 1) := by decide +kernel
theorem dX7_openOffers_8 : decode cX7_openOffers 8 = .ok (.getfield 20, 3) := by decide +kernel
theorem dX7_openOffers_11 : decode cX7_openOffers 11 = .ok (.goto 7, 3) := by decide +kernel
theorem dX7_openOffers_14 : decode cX7_openOffers 14 = .ok (.aload_n 0, 1) := by decide +kernel
theorem dX7_openOffers_15 : decode cX7_openOffers 15 = .ok (.getfield 16, 3) := by decide +kernel
theorem dX7_openOffers_18 : decode cX7_openOffers 18 = .ok (.areturn, 1) := by decide +kernel
theorem dX7_mayFix_0 : decode cX7_mayFix 0 = .ok (.aload_n 0, 1) := by decide +kernel
theorem dX7_mayFix_1 : decode cX7_mayFix 1 = .ok (.invokevirtual 72, 3) := by decide +kernel
theorem dX7_mayFix_4 : decode cX7_mayFix 4 = .ok (.ifCond .eq 47, 3) := by decide +kernel
theorem dX7_mayFix_7 : decode cX7_mayFix 7 = .ok (.aload_n 0, 1) := by decide +kernel
theorem dX7_mayFix_8 : decode cX7_mayFix 8 = .ok (.iload_n 1, 1) := by decide +kernel
theorem dX7_mayFix_9 : decode cX7_mayFix 9 = .ok (.invokevirtual 80, 3) := by decide +kernel
theorem dX7_mayFix_12 : decode cX7_mayFix 12 = .ok (.ifCond .eq 39, 3) := by decide +kernel
theorem dX7_mayFix_15 : decode cX7_mayFix 15 = .ok (.iload_n 2, 1) := by decide +kernel
theorem dX7_mayFix_16 : decode cX7_mayFix 16 = .ok (.invokestatic 76, 3) := by decide +kernel
theorem dX7_mayFix_19 : decode cX7_mayFix 19 = .ok (.ifCond .eq 32, 3) := by decide +kernel
theorem dX7_mayFix_22 : decode cX7_mayFix 22 = .ok (.iload_n 3, 1) := by decide +kernel
theorem dX7_mayFix_23 : decode cX7_mayFix 23 = .ok (.invokestatic 83, 3) := by decide +kernel
theorem dX7_mayFix_26 : decode cX7_mayFix 26 = .ok (.ifCond .eq 25, 3) := by decide +kernel
theorem dX7_mayFix_29 : decode cX7_mayFix 29 = .ok (.aload_n 0, 1) := by decide +kernel
theorem dX7_mayFix_30 : decode cX7_mayFix 30 = .ok (.iload_n 1, 1) := by decide +kernel
theorem dX7_mayFix_31 : decode cX7_mayFix 31 = .ok (.invokevirtual 134, 3) := by decide +kernel
theorem dX7_mayFix_34 : decode cX7_mayFix 34 = .ok (.ifCond .ne 17, 3) := by decide +kernel
theorem dX7_mayFix_37 : decode cX7_mayFix 37 = .ok (.iload_n 2, 1) := by decide +kernel
theorem dX7_mayFix_38 : decode cX7_mayFix 38 = .ok (.aload_n 0, 1) := by decide +kernel
theorem dX7_mayFix_39 : decode cX7_mayFix 39 = .ok (.getfield 9, 3) := by decide +kernel
theorem dX7_mayFix_42 : decode cX7_mayFix 42 = .ok (.iload_n 1, 1) := by decide +kernel
theorem dX7_mayFix_43 : decode cX7_mayFix 43 = .ok (.iaload, 1) := by decide +kernel
theorem dX7_mayFix_44 : decode cX7_mayFix 44 = .ok (.if_icmp .eq 7, 3) := by decide +kernel
theorem dX7_mayFix_47 : decode cX7_mayFix 47 = .ok (.iconst 1, 1) := by decide +kernel
theorem dX7_mayFix_48 : decode cX7_mayFix 48 = .ok (.goto 4, 3) := by decide +kernel
theorem dX7_mayFix_51 : decode cX7_mayFix 51 = .ok (.iconst 0, 1) := by decide +kernel
theorem dX7_mayFix_52 : decode cX7_mayFix 52 = .ok (.ireturn, 1) := by decide +kernel
theorem dX7_firstBroken_0 : decode cX7_firstBroken 0 = .ok (.aload_n 0, 1) := by decide +kernel
theorem dX7_firstBroken_1 : decode cX7_firstBroken 1 = .ok (.getfield 26, 3) := by decide +kernel
theorem dX7_firstBroken_4 : decode cX7_firstBroken 4 = .ok (.aload_n 0, 1) := by decide +kernel
theorem dX7_firstBroken_5 : decode cX7_firstBroken 5 = .ok (.getfield 9, 3) := by decide +kernel
theorem dX7_firstBroken_8 : decode cX7_firstBroken 8 = .ok (.aload_n 0, 1) := by decide +kernel
theorem dX7_firstBroken_9 : decode cX7_firstBroken 9 = .ok (.getfield 16, 3) := by decide +kernel
theorem dX7_firstBroken_12 : decode cX7_firstBroken 12 = .ok (.invokevirtual 147, 3) := by decide +kernel
theorem dX7_firstBroken_15 : decode cX7_firstBroken 15 = .ok (.aload_n 0, 1) := by decide +kernel
theorem dX7_firstBroken_16 : decode cX7_firstBroken 16 = .ok (.getfield 26, 3) := by decide +kernel
theorem dX7_firstBroken_19 : decode cX7_firstBroken 19 = .ok (.iload_n 1, 1) := by decide +kernel
theorem dX7_firstBroken_20 : decode cX7_firstBroken 20 = .ok (.invokevirtual 250, 3) := by decide +kernel
theorem dX7_firstBroken_23 : decode cX7_firstBroken 23 = .ok (.ireturn, 1) := by decide +kernel
theorem dX7_goes_0 : decode cX7_goes 0 = .ok (.aload_n 0, 1) := by decide +kernel
theorem dX7_goes_1 : decode cX7_goes 1 = .ok (.getfield 26, 3) := by decide +kernel
theorem dX7_goes_4 : decode cX7_goes 4 = .ok (.iload_n 1, 1) := by decide +kernel
theorem dX7_goes_5 : decode cX7_goes 5 = .ok (.invokevirtual 250, 3) := by decide +kernel
theorem dX7_goes_8 : decode cX7_goes 8 = .ok (.iconst (-1), 1) := by decide +kernel
theorem dX7_goes_9 : decode cX7_goes 9 = .ok (.if_icmp .ne 19, 3) := by decide +kernel
theorem dX7_goes_12 : decode cX7_goes 12 = .ok (.aload_n 0, 1) := by decide +kernel
theorem dX7_goes_13 : decode cX7_goes 13 = .ok (.getfield 33, 3) := by decide +kernel
theorem dX7_goes_16 : decode cX7_goes 16 = .ok (.iload_n 1, 1) := by decide +kernel
theorem dX7_goes_17 : decode cX7_goes 17 = .ok (.invokevirtual 121, 3) := by decide +kernel
theorem dX7_goes_20 : decode cX7_goes 20 = .ok (.iconst (-1), 1) := by decide +kernel
theorem dX7_goes_21 : decode cX7_goes 21 = .ok (.if_icmp .ne 7, 3) := by decide +kernel
theorem dX7_goes_24 : decode cX7_goes 24 = .ok (.iconst 1, 1) := by decide +kernel
theorem dX7_goes_25 : decode cX7_goes 25 = .ok (.goto 4, 3) := by decide +kernel
theorem dX7_goes_28 : decode cX7_goes 28 = .ok (.iconst 0, 1) := by decide +kernel
theorem dX7_goes_29 : decode cX7_goes 29 = .ok (.ireturn, 1) := by decide +kernel
theorem dX7_greatest_0 : decode cX7_greatest 0 = .ok (.aload_n 0, 1) := by decide +kernel
theorem dX7_greatest_1 : decode cX7_greatest 1 = .ok (.getfield 26, 3) := by decide +kernel
theorem dX7_greatest_4 : decode cX7_greatest 4 = .ok (.aload_n 0, 1) := by decide +kernel
theorem dX7_greatest_5 : decode cX7_greatest 5 = .ok (.getfield 9, 3) := by decide +kernel
theorem dX7_greatest_8 : decode cX7_greatest 8 = .ok (.aload_n 0, 1) := by decide +kernel
theorem dX7_greatest_9 : decode cX7_greatest 9 = .ok (.getfield 16, 3) := by decide +kernel
theorem dX7_greatest_12 : decode cX7_greatest 12 = .ok (.invokevirtual 147, 3) := by decide +kernel
theorem dX7_greatest_15 : decode cX7_greatest 15 = .ok (.iconst (-1), 1) := by decide +kernel
theorem dX7_greatest_16 : decode cX7_greatest 16 = .ok (.istore_n 3, 1) := by decide +kernel
theorem dX7_greatest_17 : decode cX7_greatest 17 = .ok (.iconst (-1), 1) := by decide +kernel
theorem dX7_greatest_18 : decode cX7_greatest 18 = .ok (.istore 4, 2) := by decide +kernel
theorem dX7_greatest_20 : decode cX7_greatest 20 = .ok (.iload_n 1, 1) := by decide +kernel
theorem dX7_greatest_21 : decode cX7_greatest 21 = .ok (.istore 5, 2) := by decide +kernel
theorem dX7_greatest_23 : decode cX7_greatest 23 = .ok (.iload 5, 2) := by decide +kernel
theorem dX7_greatest_25 : decode cX7_greatest 25 = .ok (.iload_n 2, 1) := by decide +kernel
theorem dX7_greatest_26 : decode cX7_greatest 26 = .ok (.if_icmp .lt 88, 3) := by decide +kernel
theorem dX7_greatest_29 : decode cX7_greatest 29 = .ok (.iload 5, 2) := by decide +kernel
theorem dX7_greatest_31 : decode cX7_greatest 31 = .ok (.iload_n 1, 1) := by decide +kernel
theorem dX7_greatest_32 : decode cX7_greatest 32 = .ok (.iconst (-1), 1) := by decide +kernel
theorem dX7_greatest_33 : decode cX7_greatest 33 = .ok (.ixor, 1) := by decide +kernel
theorem dX7_greatest_34 : decode cX7_greatest 34 = .ok (.iand, 1) := by decide +kernel
theorem dX7_greatest_35 : decode cX7_greatest 35 = .ok (.ifCond .ne 73, 3) := by decide +kernel
theorem dX7_greatest_38 : decode cX7_greatest 38 = .ok (.iload 5, 2) := by decide +kernel
theorem dX7_greatest_40 : decode cX7_greatest 40 = .ok (.iload_n 2, 1) := by decide +kernel
theorem dX7_greatest_41 : decode cX7_greatest 41 = .ok (.iand, 1) := by decide +kernel
theorem dX7_greatest_42 : decode cX7_greatest 42 = .ok (.iload_n 2, 1) := by decide +kernel
theorem dX7_greatest_43 : decode cX7_greatest 43 = .ok (.if_icmp .ne 65, 3) := by decide +kernel
theorem dX7_greatest_46 : decode cX7_greatest 46 = .ok (.aload_n 0, 1) := by decide +kernel
theorem dX7_greatest_47 : decode cX7_greatest 47 = .ok (.getfield 16, 3) := by decide +kernel
theorem dX7_greatest_50 : decode cX7_greatest 50 = .ok (.iload 5, 2) := by decide +kernel
theorem dX7_greatest_52 : decode cX7_greatest 52 = .ok (.invokevirtual 131, 3) := by decide +kernel
theorem dX7_greatest_55 : decode cX7_greatest 55 = .ok (.istore 6, 2) := by decide +kernel
theorem dX7_greatest_57 : decode cX7_greatest 57 = .ok (.iload 6, 2) := by decide +kernel
theorem dX7_greatest_59 : decode cX7_greatest 59 = .ok (.iload 4, 2) := by decide +kernel
theorem dX7_greatest_61 : decode cX7_greatest 61 = .ok (.if_icmp .gt 19, 3) := by decide +kernel
theorem dX7_greatest_64 : decode cX7_greatest 64 = .ok (.iload 6, 2) := by decide +kernel
theorem dX7_greatest_66 : decode cX7_greatest 66 = .ok (.iload 4, 2) := by decide +kernel
theorem dX7_greatest_68 : decode cX7_greatest 68 = .ok (.if_icmp .ne 16, 3) := by decide +kernel
theorem dX7_greatest_71 : decode cX7_greatest 71 = .ok (.iload 5, 2) := by decide +kernel
theorem dX7_greatest_73 : decode cX7_greatest 73 = .ok (.iload_n 3, 1) := by decide +kernel
theorem dX7_greatest_74 : decode cX7_greatest 74 = .ok (.invokestatic 251, 3) := by decide +kernel
theorem dX7_greatest_77 : decode cX7_greatest 77 = .ok (.ifCond .eq 7, 3) := by decide +kernel
theorem dX7_greatest_80 : decode cX7_greatest 80 = .ok (.iconst 1, 1) := by decide +kernel
theorem dX7_greatest_81 : decode cX7_greatest 81 = .ok (.goto 4, 3) := by decide +kernel
theorem dX7_greatest_84 : decode cX7_greatest 84 = .ok (.iconst 0, 1) := by decide +kernel
theorem dX7_greatest_85 : decode cX7_greatest 85 = .ok (.istore 7, 2) := by decide +kernel
theorem dX7_greatest_87 : decode cX7_greatest 87 = .ok (.iload 7, 2) := by decide +kernel
theorem dX7_greatest_89 : decode cX7_greatest 89 = .ok (.ifCond .eq 19, 3) := by decide +kernel
theorem dX7_greatest_92 : decode cX7_greatest 92 = .ok (.aload_n 0, 1) := by decide +kernel
theorem dX7_greatest_93 : decode cX7_greatest 93 = .ok (.iload 5, 2) := by decide +kernel
theorem dX7_greatest_95 : decode cX7_greatest 95 = .ok (.invokevirtual 151, 3) := by decide +kernel
theorem dX7_greatest_98 : decode cX7_greatest 98 = .ok (.ifCond .eq 10, 3) := by decide +kernel
theorem dX7_greatest_101 : decode cX7_greatest 101 = .ok (.iload 5, 2) := by decide +kernel
theorem dX7_greatest_103 : decode cX7_greatest 103 = .ok (.istore_n 3, 1) := by decide +kernel
theorem dX7_greatest_104 : decode cX7_greatest 104 = .ok (.iload 6, 2) := by decide +kernel
theorem dX7_greatest_106 : decode cX7_greatest 106 = .ok (.istore 4, 2) := by decide +kernel
theorem dX7_greatest_108 : decode cX7_greatest 108 = .ok (.iinc 5 (-1), 3) := by decide +kernel
theorem dX7_greatest_111 : decode cX7_greatest 111 = .ok (.goto (-88), 3) := by decide +kernel
theorem dX7_greatest_114 : decode cX7_greatest 114 = .ok (.iload_n 3, 1) := by decide +kernel
theorem dX7_greatest_115 : decode cX7_greatest 115 = .ok (.ireturn, 1) := by decide +kernel
theorem dX7_hasLowerPart_0 : decode cX7_hasLowerPart 0 = .ok (.iload_n 0, 1) := by decide +kernel
theorem dX7_hasLowerPart_1 : decode cX7_hasLowerPart 1 = .ok (.iload_n 0, 1) := by decide +kernel
theorem dX7_hasLowerPart_2 : decode cX7_hasLowerPart 2 = .ok (.iload_n 1, 1) := by decide +kernel
theorem dX7_hasLowerPart_3 : decode cX7_hasLowerPart 3 = .ok (.ixor, 1) := by decide +kernel
theorem dX7_hasLowerPart_4 : decode cX7_hasLowerPart 4 = .ok (.invokestatic 254, 3) := by decide +kernel
theorem dX7_hasLowerPart_7 : decode cX7_hasLowerPart 7 = .ok (.iand, 1) := by decide +kernel
theorem dX7_hasLowerPart_8 : decode cX7_hasLowerPart 8 = .ok (.ifCond .eq 7, 3) := by decide +kernel
theorem dX7_hasLowerPart_11 : decode cX7_hasLowerPart 11 = .ok (.iconst 1, 1) := by decide +kernel
theorem dX7_hasLowerPart_12 : decode cX7_hasLowerPart 12 = .ok (.goto 4, 3) := by decide +kernel
theorem dX7_hasLowerPart_15 : decode cX7_hasLowerPart 15 = .ok (.iconst 0, 1) := by decide +kernel
theorem dX7_hasLowerPart_16 : decode cX7_hasLowerPart 16 = .ok (.ireturn, 1) := by decide +kernel
theorem dX7_choose_0 : decode cX7_choose 0 = .ok (.aload_n 0, 1) := by decide +kernel
theorem dX7_choose_1 : decode cX7_choose 1 = .ok (.iload_n 1, 1) := by decide +kernel
theorem dX7_choose_2 : decode cX7_choose 2 = .ok (.putfield 69, 3) := by decide +kernel
theorem dX7_choose_5 : decode cX7_choose 5 = .ok (.aload_n 0, 1) := by decide +kernel
theorem dX7_choose_6 : decode cX7_choose 6 = .ok (.getfield 26, 3) := by decide +kernel
theorem dX7_choose_9 : decode cX7_choose 9 = .ok (.aload_n 0, 1) := by decide +kernel
theorem dX7_choose_10 : decode cX7_choose 10 = .ok (.getfield 9, 3) := by decide +kernel
theorem dX7_choose_13 : decode cX7_choose 13 = .ok (.aload_n 0, 1) := by decide +kernel
theorem dX7_choose_14 : decode cX7_choose 14 = .ok (.getfield 16, 3) := by decide +kernel
theorem dX7_choose_17 : decode cX7_choose 17 = .ok (.invokevirtual 147, 3) := by decide +kernel
theorem dX7_choose_20 : decode cX7_choose 20 = .ok (.aload_n 0, 1) := by decide +kernel
theorem dX7_choose_21 : decode cX7_choose 21 = .ok (.getfield 40, 3) := by decide +kernel
theorem dX7_choose_24 : decode cX7_choose 24 = .ok (.aload_n 0, 1) := by decide +kernel
theorem dX7_choose_25 : decode cX7_choose 25 = .ok (.getfield 26, 3) := by decide +kernel
theorem dX7_choose_28 : decode cX7_choose 28 = .ok (.iload_n 1, 1) := by decide +kernel
theorem dX7_choose_29 : decode cX7_choose 29 = .ok (.invokevirtual 257, 3) := by decide +kernel
theorem dX7_choose_32 : decode cX7_choose 32 = .ok (.return_, 1) := by decide +kernel
theorem dX7_endCut_0 : decode cX7_endCut 0 = .ok (.aload_n 0, 1) := by decide +kernel
theorem dX7_endCut_1 : decode cX7_endCut 1 = .ok (.iconst (-1), 1) := by decide +kernel
theorem dX7_endCut_2 : decode cX7_endCut 2 = .ok (.putfield 69, 3) := by decide +kernel
theorem dX7_endCut_5 : decode cX7_endCut 5 = .ok (.iconst 0, 1) := by decide +kernel
theorem dX7_endCut_6 : decode cX7_endCut 6 = .ok (.istore_n 1, 1) := by decide +kernel
theorem dX7_endCut_7 : decode cX7_endCut 7 = .ok (.iload_n 1, 1) := by decide +kernel
theorem dX7_endCut_8 : decode cX7_endCut 8 = .ok (.aload_n 0, 1) := by decide +kernel
theorem dX7_endCut_9 : decode cX7_endCut 9 = .ok (.getfield 65, 3) := by decide +kernel
theorem dX7_endCut_12 : decode cX7_endCut 12 = .ok (.if_icmp .ge 69, 3) := by decide +kernel
theorem dX7_endCut_15 : decode cX7_endCut 15 = .ok (.aload_n 0, 1) := by decide +kernel
theorem dX7_endCut_16 : decode cX7_endCut 16 = .ok (.getfield 20, 3) := by decide +kernel
theorem dX7_endCut_19 : decode cX7_endCut 19 = .ok (.iload_n 1, 1) := by decide +kernel
theorem dX7_endCut_20 : decode cX7_endCut 20 = .ok (.invokevirtual 98, 3) := by decide +kernel
theorem dX7_endCut_23 : decode cX7_endCut 23 = .ok (.ifCond .eq 44, 3) := by decide +kernel
theorem dX7_endCut_26 : decode cX7_endCut 26 = .ok (.aload_n 0, 1) := by decide +kernel
theorem dX7_endCut_27 : decode cX7_endCut 27 = .ok (.getfield 20, 3) := by decide +kernel
theorem dX7_endCut_30 : decode cX7_endCut 30 = .ok (.iload_n 1, 1) := by decide +kernel
theorem dX7_endCut_31 : decode cX7_endCut 31 = .ok (.invokevirtual 141, 3) := by decide +kernel
theorem dX7_endCut_34 : decode cX7_endCut 34 = .ok (.aload_n 0, 1) := by decide +kernel
theorem dX7_endCut_35 : decode cX7_endCut 35 = .ok (.getfield 9, 3) := by decide +kernel
theorem dX7_endCut_38 : decode cX7_endCut 38 = .ok (.iload_n 1, 1) := by decide +kernel
theorem dX7_endCut_39 : decode cX7_endCut 39 = .ok (.iaload, 1) := by decide +kernel
theorem dX7_endCut_40 : decode cX7_endCut 40 = .ok (.if_icmp .eq 27, 3) := by decide +kernel
theorem dX7_endCut_43 : decode cX7_endCut 43 = .ok (.aload_n 0, 1) := by decide +kernel
theorem dX7_endCut_44 : decode cX7_endCut 44 = .ok (.getfield 16, 3) := by decide +kernel
theorem dX7_endCut_47 : decode cX7_endCut 47 = .ok (.iload_n 1, 1) := by decide +kernel
theorem dX7_endCut_48 : decode cX7_endCut 48 = .ok (.aload_n 0, 1) := by decide +kernel
theorem dX7_endCut_49 : decode cX7_endCut 49 = .ok (.getfield 20, 3) := by decide +kernel
theorem dX7_endCut_52 : decode cX7_endCut 52 = .ok (.iload_n 1, 1) := by decide +kernel
theorem dX7_endCut_53 : decode cX7_endCut 53 = .ok (.invokevirtual 141, 3) := by decide +kernel
theorem dX7_endCut_56 : decode cX7_endCut 56 = .ok (.aload_n 0, 1) := by decide +kernel
theorem dX7_endCut_57 : decode cX7_endCut 57 = .ok (.getfield 20, 3) := by decide +kernel
theorem dX7_endCut_60 : decode cX7_endCut 60 = .ok (.iload_n 1, 1) := by decide +kernel
theorem dX7_endCut_61 : decode cX7_endCut 61 = .ok (.invokevirtual 144, 3) := by decide +kernel
theorem dX7_endCut_64 : decode cX7_endCut 64 = .ok (.invokevirtual 94, 3) := by decide +kernel
theorem dX7_endCut_67 : decode cX7_endCut 67 = .ok (.aload_n 0, 1) := by decide +kernel
theorem dX7_endCut_68 : decode cX7_endCut 68 = .ok (.getfield 20, 3) := by decide +kernel
theorem dX7_endCut_71 : decode cX7_endCut 71 = .ok (.iload_n 1, 1) := by decide +kernel
theorem dX7_endCut_72 : decode cX7_endCut 72 = .ok (.invokevirtual 101, 3) := by decide +kernel
theorem dX7_endCut_75 : decode cX7_endCut 75 = .ok (.iinc 1 1, 3) := by decide +kernel
theorem dX7_endCut_78 : decode cX7_endCut 78 = .ok (.goto (-71), 3) := by decide +kernel
theorem dX7_endCut_81 : decode cX7_endCut 81 = .ok (.return_, 1) := by decide +kernel
theorem dX7_latestOut_0 : decode cX7_latestOut 0 = .ok (.aload_n 0, 1) := by decide +kernel
theorem dX7_latestOut_1 : decode cX7_latestOut 1 = .ok (.getfield 61, 3) := by decide +kernel
theorem dX7_latestOut_4 : decode cX7_latestOut 4 = .ok (.invokevirtual 160, 3) := by decide +kernel
theorem dX7_latestOut_7 : decode cX7_latestOut 7 = .ok (.iconst 1, 1) := by decide +kernel
theorem dX7_latestOut_8 : decode cX7_latestOut 8 = .ok (.isub, 1) := by decide +kernel
theorem dX7_latestOut_9 : decode cX7_latestOut 9 = .ok (.istore_n 1, 1) := by decide +kernel
theorem dX7_latestOut_10 : decode cX7_latestOut 10 = .ok (.iload_n 1, 1) := by decide +kernel
theorem dX7_latestOut_11 : decode cX7_latestOut 11 = .ok (.ifCond .lt 28, 3) := by decide +kernel
theorem dX7_latestOut_14 : decode cX7_latestOut 14 = .ok (.aload_n 0, 1) := by decide +kernel
theorem dX7_latestOut_15 : decode cX7_latestOut 15 = .ok (.getfield 61, 3) := by decide +kernel
theorem dX7_latestOut_18 : decode cX7_latestOut 18 = .ok (.iload_n 1, 1) := by decide +kernel
theorem dX7_latestOut_19 : decode cX7_latestOut 19 = .ok (.invokevirtual 189, 3) := by decide +kernel
theorem dX7_latestOut_22 : decode cX7_latestOut 22 = .ok (.checkcast 169, 3) := by decide +kernel
theorem dX7_latestOut_25 : decode cX7_latestOut 25 = .ok (.getfield 209, 3) := by decide +kernel
theorem dX7_latestOut_28 : decode cX7_latestOut 28 = .ok (.ifCond .ne 5, 3) := by decide +kernel
theorem dX7_latestOut_31 : decode cX7_latestOut 31 = .ok (.iload_n 1, 1) := by decide +kernel
theorem dX7_latestOut_32 : decode cX7_latestOut 32 = .ok (.ireturn, 1) := by decide +kernel
theorem dX7_latestOut_33 : decode cX7_latestOut 33 = .ok (.iinc 1 (-1), 3) := by decide +kernel
theorem dX7_latestOut_36 : decode cX7_latestOut 36 = .ok (.goto (-26), 3) := by decide +kernel
theorem dX7_latestOut_39 : decode cX7_latestOut 39 = .ok (.iconst (-1), 1) := by decide +kernel
theorem dX7_latestOut_40 : decode cX7_latestOut 40 = .ok (.ireturn, 1) := by decide +kernel
theorem dX7_trainsOut_0 : decode cX7_trainsOut 0 = .ok (.iconst 0, 1) := by decide +kernel
theorem dX7_trainsOut_1 : decode cX7_trainsOut 1 = .ok (.istore_n 1, 1) := by decide +kernel
theorem dX7_trainsOut_2 : decode cX7_trainsOut 2 = .ok (.iconst 0, 1) := by decide +kernel
theorem dX7_trainsOut_3 : decode cX7_trainsOut 3 = .ok (.istore_n 2, 1) := by decide +kernel
theorem dX7_trainsOut_4 : decode cX7_trainsOut 4 = .ok (.iload_n 2, 1) := by decide +kernel
theorem dX7_trainsOut_5 : decode cX7_trainsOut 5 = .ok (.aload_n 0, 1) := by decide +kernel
theorem dX7_trainsOut_6 : decode cX7_trainsOut 6 = .ok (.getfield 61, 3) := by decide +kernel
theorem dX7_trainsOut_9 : decode cX7_trainsOut 9 = .ok (.invokevirtual 160, 3) := by decide +kernel
theorem dX7_trainsOut_12 : decode cX7_trainsOut 12 = .ok (.if_icmp .ge 29, 3) := by decide +kernel
theorem dX7_trainsOut_15 : decode cX7_trainsOut 15 = .ok (.aload_n 0, 1) := by decide +kernel
theorem dX7_trainsOut_16 : decode cX7_trainsOut 16 = .ok (.getfield 61, 3) := by decide +kernel
theorem dX7_trainsOut_19 : decode cX7_trainsOut 19 = .ok (.iload_n 2, 1) := by decide +kernel
theorem dX7_trainsOut_20 : decode cX7_trainsOut 20 = .ok (.invokevirtual 189, 3) := by decide +kernel
theorem dX7_trainsOut_23 : decode cX7_trainsOut 23 = .ok (.checkcast 169, 3) := by decide +kernel
theorem dX7_trainsOut_26 : decode cX7_trainsOut 26 = .ok (.getfield 209, 3) := by decide +kernel
theorem dX7_trainsOut_29 : decode cX7_trainsOut 29 = .ok (.ifCond .ne 6, 3) := by decide +kernel
theorem dX7_trainsOut_32 : decode cX7_trainsOut 32 = .ok (.iinc 1 1, 3) := by decide +kernel
theorem dX7_trainsOut_35 : decode cX7_trainsOut 35 = .ok (.iinc 2 1, 3) := by decide +kernel
theorem dX7_trainsOut_38 : decode cX7_trainsOut 38 = .ok (.goto (-34), 3) := by decide +kernel
theorem dX7_trainsOut_41 : decode cX7_trainsOut 41 = .ok (.iload_n 1, 1) := by decide +kernel
theorem dX7_trainsOut_42 : decode cX7_trainsOut 42 = .ok (.ireturn, 1) := by decide +kernel
theorem dX7_isStuck_0 : decode cX7_isStuck 0 = .ok (.iconst 0, 1) := by decide +kernel
theorem dX7_isStuck_1 : decode cX7_isStuck 1 = .ok (.istore_n 2, 1) := by decide +kernel
theorem dX7_isStuck_2 : decode cX7_isStuck 2 = .ok (.iload_n 2, 1) := by decide +kernel
theorem dX7_isStuck_3 : decode cX7_isStuck 3 = .ok (.aload_n 0, 1) := by decide +kernel
theorem dX7_isStuck_4 : decode cX7_isStuck 4 = .ok (.getfield 65, 3) := by decide +kernel
theorem dX7_isStuck_7 : decode cX7_isStuck 7 = .ok (.if_icmp .ge 37, 3) := by decide +kernel
theorem dX7_isStuck_10 : decode cX7_isStuck 10 = .ok (.iload_n 1, 1) := by decide +kernel
theorem dX7_isStuck_11 : decode cX7_isStuck 11 = .ok (.iload_n 2, 1) := by decide +kernel
theorem dX7_isStuck_12 : decode cX7_isStuck 12 = .ok (.ishr, 1) := by decide +kernel
theorem dX7_isStuck_13 : decode cX7_isStuck 13 = .ok (.iconst 1, 1) := by decide +kernel
theorem dX7_isStuck_14 : decode cX7_isStuck 14 = .ok (.iand, 1) := by decide +kernel
theorem dX7_isStuck_15 : decode cX7_isStuck 15 = .ok (.ifCond .eq 23, 3) := by decide +kernel
theorem dX7_isStuck_18 : decode cX7_isStuck 18 = .ok (.aload_n 0, 1) := by decide +kernel
theorem dX7_isStuck_19 : decode cX7_isStuck 19 = .ok (.getfield 54, 3) := by decide +kernel
theorem dX7_isStuck_22 : decode cX7_isStuck 22 = .ok (.iload_n 2, 1) := by decide +kernel
theorem dX7_isStuck_23 : decode cX7_isStuck 23 = .ok (.aload_n 0, 1) := by decide +kernel
theorem dX7_isStuck_24 : decode cX7_isStuck 24 = .ok (.getfield 9, 3) := by decide +kernel
theorem dX7_isStuck_27 : decode cX7_isStuck 27 = .ok (.iload_n 2, 1) := by decide +kernel
theorem dX7_isStuck_28 : decode cX7_isStuck 28 = .ok (.iaload, 1) := by decide +kernel
theorem dX7_isStuck_29 : decode cX7_isStuck 29 = .ok (.invokevirtual 261, 3) := by decide +kernel
theorem dX7_isStuck_32 : decode cX7_isStuck 32 = .ok (.iconst (-1), 1) := by decide +kernel
theorem dX7_isStuck_33 : decode cX7_isStuck 33 = .ok (.if_icmp .eq 5, 3) := by decide +kernel
theorem dX7_isStuck_36 : decode cX7_isStuck 36 = .ok (.iconst 1, 1) := by decide +kernel
theorem dX7_isStuck_37 : decode cX7_isStuck 37 = .ok (.ireturn, 1) := by decide +kernel
theorem dX7_isStuck_38 : decode cX7_isStuck 38 = .ok (.iinc 2 1, 3) := by decide +kernel
theorem dX7_isStuck_41 : decode cX7_isStuck 41 = .ok (.goto (-39), 3) := by decide +kernel
theorem dX7_isStuck_44 : decode cX7_isStuck 44 = .ok (.iconst 0, 1) := by decide +kernel
theorem dX7_isStuck_45 : decode cX7_isStuck 45 = .ok (.ireturn, 1) := by decide +kernel
theorem dX7_bringHome_0 : decode cX7_bringHome 0 = .ok (.iconst 0, 1) := by decide +kernel
theorem dX7_bringHome_1 : decode cX7_bringHome 1 = .ok (.istore_n 3, 1) := by decide +kernel
theorem dX7_bringHome_2 : decode cX7_bringHome 2 = .ok (.iload_n 3, 1) := by decide +kernel
theorem dX7_bringHome_3 : decode cX7_bringHome 3 = .ok (.aload_n 1, 1) := by decide +kernel
theorem dX7_bringHome_4 : decode cX7_bringHome 4 = .ok (.arraylength, 1) := by decide +kernel
theorem dX7_bringHome_5 : decode cX7_bringHome 5 = .ok (.if_icmp .ge 32, 3) := by decide +kernel
theorem dX7_bringHome_8 : decode cX7_bringHome 8 = .ok (.iload_n 3, 1) := by decide +kernel
theorem dX7_bringHome_9 : decode cX7_bringHome 9 = .ok (.bipush 10, 2) := by decide +kernel
theorem dX7_bringHome_11 : decode cX7_bringHome 11 = .ok (.if_icmp .ge 26, 3) := by decide +kernel
theorem dX7_bringHome_14 : decode cX7_bringHome 14 = .ok (.iload_n 2, 1) := by decide +kernel
theorem dX7_bringHome_15 : decode cX7_bringHome 15 = .ok (.iload_n 3, 1) := by decide +kernel
theorem dX7_bringHome_16 : decode cX7_bringHome 16 = .ok (.ishr, 1) := by decide +kernel
theorem dX7_bringHome_17 : decode cX7_bringHome 17 = .ok (.iconst 1, 1) := by decide +kernel
theorem dX7_bringHome_18 : decode cX7_bringHome 18 = .ok (.iand, 1) := by decide +kernel
theorem dX7_bringHome_19 : decode cX7_bringHome 19 = .ok (.ifCond .eq 12, 3) := by decide +kernel
theorem dX7_bringHome_22 : decode cX7_bringHome 22 = .ok (.aload_n 0, 1) := by decide +kernel
theorem dX7_bringHome_23 : decode cX7_bringHome 23 = .ok (.getfield 9, 3) := by decide +kernel
theorem dX7_bringHome_26 : decode cX7_bringHome 26 = .ok (.iload_n 3, 1) := by decide +kernel
theorem dX7_bringHome_27 : decode cX7_bringHome 27 = .ok (.aload_n 1, 1) := by decide +kernel
theorem dX7_bringHome_28 : decode cX7_bringHome 28 = .ok (.iload_n 3, 1) := by decide +kernel
theorem dX7_bringHome_29 : decode cX7_bringHome 29 = .ok (.iaload, 1) := by decide +kernel
theorem dX7_bringHome_30 : decode cX7_bringHome 30 = .ok (.iastore, 1) := by decide +kernel
theorem dX7_bringHome_31 : decode cX7_bringHome 31 = .ok (.iinc 3 1, 3) := by decide +kernel
theorem dX7_bringHome_34 : decode cX7_bringHome 34 = .ok (.goto (-32), 3) := by decide +kernel
theorem dX7_bringHome_37 : decode cX7_bringHome 37 = .ok (.return_, 1) := by decide +kernel
theorem dX7_dropOffersAtHome_0 : decode cX7_dropOffersAtHome 0 = .ok (.iconst 0, 1) := by decide +kernel
theorem dX7_dropOffersAtHome_1 : decode cX7_dropOffersAtHome 1 = .ok (.istore_n 1, 1) := by decide +kernel
theorem dX7_dropOffersAtHome_2 : decode cX7_dropOffersAtHome 2 = .ok (.iload_n 1, 1) := by decide +kernel
theorem dX7_dropOffersAtHome_3 : decode cX7_dropOffersAtHome 3 = .ok (.aload_n 0, 1) := by decide +kernel
theorem dX7_dropOffersAtHome_4 : decode cX7_dropOffersAtHome 4 = .ok (.getfield 65, 3) := by decide +kernel
theorem dX7_dropOffersAtHome_7 : decode cX7_dropOffersAtHome 7 = .ok (.if_icmp .ge 34, 3) := by decide +kernel
theorem dX7_dropOffersAtHome_10 : decode cX7_dropOffersAtHome 10 = .ok (.aload_n 0, 1) := by decide +kernel
theorem dX7_dropOffersAtHome_11 : decode cX7_dropOffersAtHome 11 = .ok (.getfield 16, 3) := by decide +kernel
theorem dX7_dropOffersAtHome_14 : decode cX7_dropOffersAtHome 14 = .ok (.iload_n 1, 1) := by decide +kernel
theorem dX7_dropOffersAtHome_15 : decode cX7_dropOffersAtHome 15 = .ok (.invokevirtual 141, 3) := by decide +kernel
theorem dX7_dropOffersAtHome_18 : decode cX7_dropOffersAtHome 18 = .ok (.aload_n 0, 1) := by decide +kernel
theorem dX7_dropOffersAtHome_19 : decode cX7_dropOffersAtHome 19 = .ok (.getfield 9, 3) := by decide +kernel
theorem dX7_dropOffersAtHome_22 : decode cX7_dropOffersAtHome 22 = .ok (.iload_n 1, 1) := by decide +kernel
theorem dX7_dropOffersAtHome_23 : decode cX7_dropOffersAtHome 23 = .ok (.iaload, 1) := by decide +kernel
theorem dX7_dropOffersAtHome_24 : decode cX7_dropOffersAtHome 24 = .ok (.if_icmp .ne 11, 3) := by decide +kernel
theorem dX7_dropOffersAtHome_27 : decode cX7_dropOffersAtHome 27 = .ok (.aload_n 0, 1) := by decide +kernel
theorem dX7_dropOffersAtHome_28 : decode cX7_dropOffersAtHome 28 = .ok (.getfield 16, 3) := by decide +kernel
theorem dX7_dropOffersAtHome_31 : decode cX7_dropOffersAtHome 31 = .ok (.iload_n 1, 1) := by decide +kernel
theorem dX7_dropOffersAtHome_32 : decode cX7_dropOffersAtHome 32 = .ok (.invokevirtual 101, 3) := by decide +kernel
theorem dX7_dropOffersAtHome_35 : decode cX7_dropOffersAtHome 35 = .ok (.iinc 1 1, 3) := by decide +kernel
theorem dX7_dropOffersAtHome_38 : decode cX7_dropOffersAtHome 38 = .ok (.goto (-36), 3) := by decide +kernel
theorem dX7_dropOffersAtHome_41 : decode cX7_dropOffersAtHome 41 = .ok (.return_, 1) := by decide +kernel
end
section
theorem dX8_init_0 : decode cX8_init 0 = .ok (.aload_n 0, 1) := by decide +kernel
theorem dX8_init_1 : decode cX8_init 1 = .ok (.invokespecial 3, 3) := by decide +kernel
theorem dX8_init_4 : decode cX8_init 4 = .ok (.aload_n 0, 1) := by decide +kernel
theorem dX8_init_5 : decode cX8_init 5 = .ok (.bipush 10, 2) := by decide +kernel
theorem dX8_init_7 : decode cX8_init 7 = .ok (.newarray .int, 2) := by decide +kernel
theorem dX8_init_9 : decode cX8_init 9 = .ok (.putfield 9, 3) := by decide +kernel
theorem dX8_init_12 : decode cX8_init 12 = .ok (.aload_n 0, 1) := by decide +kernel
theorem dX8_init_13 : decode cX8_init 13 = .ok (.bipush 10, 2) := by decide +kernel
theorem dX8_init_15 : decode cX8_init 15 = .ok (.newarray .int, 2) := by decide +kernel
theorem dX8_init_17 : decode cX8_init 17 = .ok (.putfield 13, 3) := by decide +kernel
theorem dX8_init_20 : decode cX8_init 20 = .ok (.aload_n 0, 1) := by decide +kernel
theorem dX8_init_21 : decode cX8_init 21 = .ok (.bipush 10, 2) := by decide +kernel
theorem dX8_init_23 : decode cX8_init 23 = .ok (.newarray .int, 2) := by decide +kernel
theorem dX8_init_25 : decode cX8_init 25 = .ok (.putfield 16, 3) := by decide +kernel
theorem dX8_init_28 : decode cX8_init 28 = .ok (.aload_n 0, 1) := by decide +kernel
theorem dX8_init_29 : decode cX8_init 29 = .ok (.bipush 10, 2) := by decide +kernel
theorem dX8_init_31 : decode cX8_init 31 = .ok (.newarray .int, 2) := by decide +kernel
theorem dX8_init_33 : decode cX8_init 33 = .ok (.putfield 19, 3) := by decide +kernel
theorem dX8_init_36 : decode cX8_init 36 = .ok (.aload_n 0, 1) := by decide +kernel
theorem dX8_init_37 : decode cX8_init 37 = .ok (.bipush 10, 2) := by decide +kernel
theorem dX8_init_39 : decode cX8_init 39 = .ok (.newarray .int, 2) := by decide +kernel
theorem dX8_init_41 : decode cX8_init 41 = .ok (.putfield 22, 3) := by decide +kernel
theorem dX8_init_44 : decode cX8_init 44 = .ok (.aload_n 0, 1) := by decide +kernel
theorem dX8_init_45 : decode cX8_init 45 = .ok (.bipush 30, 2) := by decide +kernel
theorem dX8_init_47 : decode cX8_init 47 = .ok (.newarray .int, 2) := by decide +kernel
theorem dX8_init_49 : decode cX8_init 49 = .ok (.putfield 25, 3) := by decide +kernel
theorem dX8_init_52 : decode cX8_init 52 = .ok (.aload_n 0, 1) := by decide +kernel
theorem dX8_init_53 : decode cX8_init 53 = .ok (.bipush 30, 2) := by decide +kernel
theorem dX8_init_55 : decode cX8_init 55 = .ok (.newarray .int, 2) := by decide +kernel
theorem dX8_init_57 : decode cX8_init 57 = .ok (.putfield 28, 3) := by decide +kernel
theorem dX8_init_60 : decode cX8_init 60 = .ok (.aload_n 0, 1) := by decide +kernel
theorem dX8_init_61 : decode cX8_init 61 = .ok (.bipush 30, 2) := by decide +kernel
theorem dX8_init_63 : decode cX8_init 63 = .ok (.newarray .int, 2) := by decide +kernel
theorem dX8_init_65 : decode cX8_init 65 = .ok (.putfield 31, 3) := by decide +kernel
theorem dX8_init_68 : decode cX8_init 68 = .ok (.aload_n 0, 1) := by decide +kernel
theorem dX8_init_69 : decode cX8_init 69 = .ok (.bipush 30, 2) := by decide +kernel
theorem dX8_init_71 : decode cX8_init 71 = .ok (.newarray .int, 2) := by decide +kernel
theorem dX8_init_73 : decode cX8_init 73 = .ok (.putfield 34, 3) := by decide +kernel
theorem dX8_init_76 : decode cX8_init 76 = .ok (.aload_n 0, 1) := by decide +kernel
theorem dX8_init_77 : decode cX8_init 77 = .ok (.bipush 30, 2) := by decide +kernel
theorem dX8_init_79 : decode cX8_init 79 = .ok (.newarray .int, 2) := by decide +kernel
theorem dX8_init_81 : decode cX8_init 81 = .ok (.putfield 37, 3) := by decide +kernel
theorem dX8_init_84 : decode cX8_init 84 = .ok (.aload_n 0, 1) := by decide +kernel
theorem dX8_init_85 : decode cX8_init 85 = .ok (.bipush 12, 2) := by decide +kernel
theorem dX8_init_87 : decode cX8_init 87 = .ok (.newarray .int, 2) := by decide +kernel
theorem dX8_init_89 : decode cX8_init 89 = .ok (.putfield 40, 3) := by decide +kernel
theorem dX8_init_92 : decode cX8_init 92 = .ok (.aload_n 0, 1) := by decide +kernel
theorem dX8_init_93 : decode cX8_init 93 = .ok (.bipush 60, 2) := by decide +kernel
theorem dX8_init_95 : decode cX8_init 95 = .ok (.newarray .int, 2) := by decide +kernel
theorem dX8_init_97 : decode cX8_init 97 = .ok (.putfield 43, 3) := by decide +kernel
theorem dX8_init_100 : decode cX8_init 100 = .ok (.aload_n 0, 1) := by decide +kernel
theorem dX8_init_101 : decode cX8_init 101 = .ok (.bipush 60, 2) := by decide +kernel
theorem dX8_init_103 : decode cX8_init 103 = .ok (.newarray .int, 2) := by decide +kernel
theorem dX8_init_105 : decode cX8_init 105 = .ok (.putfield 46, 3) := by decide +kernel
theorem dX8_init_108 : decode cX8_init 108 = .ok (.aload_n 0, 1) := by decide +kernel
theorem dX8_init_109 : decode cX8_init 109 = .ok (.bipush 60, 2) := by decide +kernel
theorem dX8_init_111 : decode cX8_init 111 = .ok (.newarray .int, 2) := by decide +kernel
theorem dX8_init_113 : decode cX8_init 113 = .ok (.putfield 49, 3) := by decide +kernel
theorem dX8_init_116 : decode cX8_init 116 = .ok (.aload_n 0, 1) := by decide +kernel
theorem dX8_init_117 : decode cX8_init 117 = .ok (.bipush 60, 2) := by decide +kernel
theorem dX8_init_119 : decode cX8_init 119 = .ok (.newarray .int, 2) := by decide +kernel
theorem dX8_init_121 : decode cX8_init 121 = .ok (.putfield 52, 3) := by decide +kernel
theorem dX8_init_124 : decode cX8_init 124 = .ok (.aload_n 0, 1) := by decide +kernel
theorem dX8_init_125 : decode cX8_init 125 = .ok (.sipush 600, 3) := by decide +kernel
theorem dX8_init_128 : decode cX8_init 128 = .ok (.newarray .int, 2) := by decide +kernel
theorem dX8_init_130 : decode cX8_init 130 = .ok (.putfield 55, 3) := by decide +kernel
theorem dX8_init_133 : decode cX8_init 133 = .ok (.aload_n 0, 1) := by decide +kernel
theorem dX8_init_134 : decode cX8_init 134 = .ok (.sipush 600, 3) := by decide +kernel
theorem dX8_init_137 : decode cX8_init 137 = .ok (.newarray .int, 2) := by decide +kernel
theorem dX8_init_139 : decode cX8_init 139 = .ok (.putfield 58, 3) := by decide +kernel
theorem dX8_init_142 : decode cX8_init 142 = .ok (.aload_n 0, 1) := by decide +kernel
theorem dX8_init_143 : decode cX8_init 143 = .ok (.bipush 60, 2) := by decide +kernel
theorem dX8_init_145 : decode cX8_init 145 = .ok (.newarray .boolean, 2) := by decide +kernel
theorem dX8_init_147 : decode cX8_init 147 = .ok (.putfield 61, 3) := by decide +kernel
theorem dX8_init_150 : decode cX8_init 150 = .ok (.aload_n 0, 1) := by decide +kernel
theorem dX8_init_151 : decode cX8_init 151 = .ok (.sipush 1024, 3) := by decide +kernel
theorem dX8_init_154 : decode cX8_init 154 = .ok (.newarray .boolean, 2) := by decide +kernel
theorem dX8_init_156 : decode cX8_init 156 = .ok (.putfield 65, 3) := by decide +kernel
theorem dX8_init_159 : decode cX8_init 159 = .ok (.aload_n 0, 1) := by decide +kernel
theorem dX8_init_160 : decode cX8_init 160 = .ok (.bipush 10, 2) := by decide +kernel
theorem dX8_init_162 : decode cX8_init 162 = .ok (.newarray .int, 2) := by decide +kernel
theorem dX8_init_164 : decode cX8_init 164 = .ok (.putfield 68, 3) := by decide +kernel
theorem dX8_init_167 : decode cX8_init 167 = .ok (.return_, 1) := by decide +kernel
theorem dX8_thrown_0 : decode cX8_thrown 0 = .ok (.aload_n 0, 1) := by decide +kernel
theorem dX8_thrown_1 : decode cX8_thrown 1 = .ok (.getfield 71, 3) := by decide +kernel
theorem dX8_thrown_4 : decode cX8_thrown 4 = .ok (.ireturn, 1) := by decide +kernel
theorem dX8_isIn_0 : decode cX8_isIn 0 = .ok (.iload_n 0, 1) := by decide +kernel
theorem dX8_isIn_1 : decode cX8_isIn 1 = .ok (.iload_n 1, 1) := by decide +kernel
theorem dX8_isIn_2 : decode cX8_isIn 2 = .ok (.if_icmp .lt 12, 3) := by decide +kernel
theorem dX8_isIn_5 : decode cX8_isIn 5 = .ok (.iload_n 0, 1) := by decide +kernel
theorem dX8_isIn_6 : decode cX8_isIn 6 = .ok (.iload_n 2, 1) := by decide +kernel
theorem dX8_isIn_7 : decode cX8_isIn 7 = .ok (.if_icmp .gt 7, 3) := by decide +kernel
theorem dX8_isIn_10 : decode cX8_isIn 10 = .ok (.iconst 1, 1) := by decide +kernel
theorem dX8_isIn_11 : decode cX8_isIn 11 = .ok (.goto 4, 3) := by decide +kernel
theorem dX8_isIn_14 : decode cX8_isIn 14 = .ok (.iconst 0, 1) := by decide +kernel
theorem dX8_isIn_15 : decode cX8_isIn 15 = .ok (.ireturn, 1) := by decide +kernel
theorem dX8_isPart_0 : decode cX8_isPart 0 = .ok (.iload_n 1, 1) := by decide +kernel
theorem dX8_isPart_1 : decode cX8_isPart 1 = .ok (.ifCond .lt 15, 3) := by decide +kernel
theorem dX8_isPart_4 : decode cX8_isPart 4 = .ok (.iload_n 1, 1) := by decide +kernel
theorem dX8_isPart_5 : decode cX8_isPart 5 = .ok (.aload_n 0, 1) := by decide +kernel
theorem dX8_isPart_6 : decode cX8_isPart 6 = .ok (.getfield 75, 3) := by decide +kernel
theorem dX8_isPart_9 : decode cX8_isPart 9 = .ok (.if_icmp .ge 7, 3) := by decide +kernel
theorem dX8_isPart_12 : decode cX8_isPart 12 = .ok (.iconst 1, 1) := by decide +kernel
theorem dX8_isPart_13 : decode cX8_isPart 13 = .ok (.goto 4, 3) := by decide +kernel
theorem dX8_isPart_16 : decode cX8_isPart 16 = .ok (.iconst 0, 1) := by decide +kernel
theorem dX8_isPart_17 : decode cX8_isPart 17 = .ok (.ireturn, 1) := by decide +kernel
theorem dX8_isOf_0 : decode cX8_isOf 0 = .ok (.iload_n 0, 1) := by decide +kernel
theorem dX8_isOf_1 : decode cX8_isOf 1 = .ok (.iload_n 1, 1) := by decide +kernel
theorem dX8_isOf_2 : decode cX8_isOf 2 = .ok (.ishr, 1) := by decide +kernel
theorem dX8_isOf_3 : decode cX8_isOf 3 = .ok (.iconst 1, 1) := by decide +kernel
theorem dX8_isOf_4 : decode cX8_isOf 4 = .ok (.iand, 1) := by decide +kernel
theorem dX8_isOf_5 : decode cX8_isOf 5 = .ok (.iconst 1, 1) := by decide +kernel
theorem dX8_isOf_6 : decode cX8_isOf 6 = .ok (.if_icmp .ne 7, 3) := by decide +kernel
theorem dX8_isOf_9 : decode cX8_isOf 9 = .ok (.iconst 1, 1) := by decide +kernel
theorem dX8_isOf_10 : decode cX8_isOf 10 = .ok (.goto 4, 3) := by decide +kernel
theorem dX8_isOf_13 : decode cX8_isOf 13 = .ok (.iconst 0, 1) := by decide +kernel
theorem dX8_isOf_14 : decode cX8_isOf 14 = .ok (.ireturn, 1) := by decide +kernel
theorem dX8_part_0 : decode cX8_part 0 = .ok (.aload_n 0, 1) := by decide +kernel
theorem dX8_part_1 : decode cX8_part 1 = .ok (.iconst 0, 1) := by decide +kernel
theorem dX8_part_2 : decode cX8_part 2 = .ok (.putfield 71, 3) := by decide +kernel
theorem dX8_part_5 : decode cX8_part 5 = .ok (.aload_n 0, 1) := by decide +kernel
theorem dX8_part_6 : decode cX8_part 6 = .ok (.getfield 78, 3) := by decide +kernel
theorem dX8_part_9 : decode cX8_part 9 = .ok (.ifCond .ne 23, 3) := by decide +kernel
theorem dX8_part_12 : decode cX8_part 12 = .ok (.aload_n 0, 1) := by decide +kernel
theorem dX8_part_13 : decode cX8_part 13 = .ok (.getfield 75, 3) := by decide +kernel
theorem dX8_part_16 : decode cX8_part 16 = .ok (.bipush 10, 2) := by decide +kernel
theorem dX8_part_18 : decode cX8_part 18 = .ok (.if_icmp .eq 14, 3) := by decide +kernel
theorem dX8_part_21 : decode cX8_part 21 = .ok (.iload_n 1, 1) := by decide +kernel
theorem dX8_part_22 : decode cX8_part 22 = .ok (.iconst 0, 1) := by decide +kernel
theorem dX8_part_23 : decode cX8_part 23 = .ok (.sipush 1000, 3) := by decide +kernel
theorem dX8_part_26 : decode cX8_part 26 = .ok (.invokestatic 82, 3) := by decide +kernel
theorem dX8_part_29 : decode cX8_part 29 = .ok (.ifCond .ne 5, 3) := by decide +kernel
theorem dX8_part_32 : decode cX8_part 32 = .ok (.iconst (-1), 1) := by decide +kernel
theorem dX8_part_33 : decode cX8_part 33 = .ok (.ireturn, 1) := by decide +kernel
theorem dX8_part_34 : decode cX8_part 34 = .ok (.aload_n 0, 1) := by decide +kernel
theorem dX8_part_35 : decode cX8_part 35 = .ok (.getfield 9, 3) := by decide +kernel
theorem dX8_part_38 : decode cX8_part 38 = .ok (.aload_n 0, 1) := by decide +kernel
theorem dX8_part_39 : decode cX8_part 39 = .ok (.getfield 75, 3) := by decide +kernel
theorem dX8_part_42 : decode cX8_part 42 = .ok (.iload_n 1, 1) := by decide +kernel
theorem dX8_part_43 : decode cX8_part 43 = .ok (.iastore, 1) := by decide +kernel
theorem dX8_part_44 : decode cX8_part 44 = .ok (.aload_n 0, 1) := by decide +kernel
theorem dX8_part_45 : decode cX8_part 45 = .ok (.getfield 13, 3) := by decide +kernel
theorem dX8_part_48 : decode cX8_part 48 = .ok (.aload_n 0, 1) := by decide +kernel
theorem dX8_part_49 : decode cX8_part 49 = .ok (.getfield 75, 3) := by decide +kernel
theorem dX8_part_52 : decode cX8_part 52 = .ok (.iconst (-1), 1) := by decide +kernel
theorem dX8_part_53 : decode cX8_part 53 = .ok (.iastore, 1) := by decide +kernel
theorem dX8_part_54 : decode cX8_part 54 = .ok (.aload_n 0, 1) := by decide +kernel
theorem dX8_part_55 : decode cX8_part 55 = .ok (.getfield 19, 3) := by decide +kernel
theorem dX8_part_58 : decode cX8_part 58 = .ok (.aload_n 0, 1) := by decide +kernel
theorem dX8_part_59 : decode cX8_part 59 = .ok (.getfield 75, 3) := by decide +kernel
theorem dX8_part_62 : decode cX8_part 62 = .ok (.iconst (-1), 1) := by decide +kernel
theorem dX8_part_63 : decode cX8_part 63 = .ok (.iastore, 1) := by decide +kernel
theorem dX8_part_64 : decode cX8_part 64 = .ok (.aload_n 0, 1) := by decide +kernel
theorem dX8_part_65 : decode cX8_part 65 = .ok (.dup, 1) := by decide +kernel
theorem dX8_part_66 : decode cX8_part 66 = .ok (.getfield 75, 3) := by decide +kernel
theorem dX8_part_69 : decode cX8_part 69 = .ok (.iconst 1, 1) := by decide +kernel
theorem dX8_part_70 : decode cX8_part 70 = .ok (.iadd, 1) := by decide +kernel
theorem dX8_part_71 : decode cX8_part 71 = .ok (.putfield 75, 3) := by decide +kernel
theorem dX8_part_74 : decode cX8_part 74 = .ok (.aload_n 0, 1) := by decide +kernel
theorem dX8_part_75 : decode cX8_part 75 = .ok (.getfield 75, 3) := by decide +kernel
theorem dX8_part_78 : decode cX8_part 78 = .ok (.iconst 1, 1) := by decide +kernel
theorem dX8_part_79 : decode cX8_part 79 = .ok (.isub, 1) := by decide +kernel
theorem dX8_part_80 : decode cX8_part 80 = .ok (.ireturn, 1) := by decide +kernel
theorem dX8_offer_0 : decode cX8_offer 0 = .ok (.aload_n 0, 1) := by decide +kernel
theorem dX8_offer_1 : decode cX8_offer 1 = .ok (.iconst 0, 1) := by decide +kernel
theorem dX8_offer_2 : decode cX8_offer 2 = .ok (.putfield 71, 3) := by decide +kernel
theorem dX8_offer_5 : decode cX8_offer 5 = .ok (.aload_n 0, 1) := by decide +kernel
theorem dX8_offer_6 : decode cX8_offer 6 = .ok (.iload_n 1, 1) := by decide +kernel
theorem dX8_offer_7 : decode cX8_offer 7 = .ok (.invokevirtual 86, 3) := by decide +kernel
theorem dX8_offer_10 : decode cX8_offer 10 = .ok (.ifCond .eq 25, 3) := by decide +kernel
theorem dX8_offer_13 : decode cX8_offer 13 = .ok (.iload_n 2, 1) := by decide +kernel
theorem dX8_offer_14 : decode cX8_offer 14 = .ok (.iconst 0, 1) := by decide +kernel
theorem dX8_offer_15 : decode cX8_offer 15 = .ok (.sipush 1000, 3) := by decide +kernel
theorem dX8_offer_18 : decode cX8_offer 18 = .ok (.invokestatic 82, 3) := by decide +kernel
theorem dX8_offer_21 : decode cX8_offer 21 = .ok (.ifCond .eq 14, 3) := by decide +kernel
theorem dX8_offer_24 : decode cX8_offer 24 = .ok (.iload_n 3, 1) := by decide +kernel
theorem dX8_offer_25 : decode cX8_offer 25 = .ok (.iconst 1, 1) := by decide +kernel
theorem dX8_offer_26 : decode cX8_offer 26 = .ok (.sipush 1000, 3) := by decide +kernel
theorem dX8_offer_29 : decode cX8_offer 29 = .ok (.invokestatic 82, 3) := by decide +kernel
theorem dX8_offer_32 : decode cX8_offer 32 = .ok (.ifCond .ne 5, 3) := by decide +kernel
theorem dX8_offer_35 : decode cX8_offer 35 = .ok (.iconst 0, 1) := by decide +kernel
theorem dX8_offer_36 : decode cX8_offer 36 = .ok (.ireturn, 1) := by decide +kernel
theorem dX8_offer_37 : decode cX8_offer 37 = .ok (.aload_n 0, 1) := by decide +kernel
theorem dX8_offer_38 : decode cX8_offer 38 = .ok (.getfield 78, 3) := by decide +kernel
theorem dX8_offer_41 : decode cX8_offer 41 = .ok (.ifCond .ne 31, 3) := by decide +kernel
theorem dX8_offer_44 : decode cX8_offer 44 = .ok (.iload_n 2, 1) := by decide +kernel
theorem dX8_offer_45 : decode cX8_offer 45 = .ok (.aload_n 0, 1) := by decide +kernel
theorem dX8_offer_46 : decode cX8_offer 46 = .ok (.getfield 9, 3) := by decide +kernel
theorem dX8_offer_49 : decode cX8_offer 49 = .ok (.iload_n 1, 1) := by decide +kernel
theorem dX8_offer_50 : decode cX8_offer 50 = .ok (.iaload, 1) := by decide +kernel
theorem dX8_offer_51 : decode cX8_offer 51 = .ok (.if_icmp .ne 5, 3) := by decide +kernel
theorem dX8_offer_54 : decode cX8_offer 54 = .ok (.iconst 0, 1) := by decide +kernel
theorem dX8_offer_55 : decode cX8_offer 55 = .ok (.ireturn, 1) := by decide +kernel
theorem dX8_offer_56 : decode cX8_offer 56 = .ok (.aload_n 0, 1) := by decide +kernel
theorem dX8_offer_57 : decode cX8_offer 57 = .ok (.getfield 13, 3) := by decide +kernel
theorem dX8_offer_60 : decode cX8_offer 60 = .ok (.iload_n 1, 1) := by decide +kernel
theorem dX8_offer_61 : decode cX8_offer 61 = .ok (.iload_n 2, 1) := by decide +kernel
theorem dX8_offer_62 : decode cX8_offer 62 = .ok (.iastore, 1) := by decide +kernel
theorem dX8_offer_63 : decode cX8_offer 63 = .ok (.aload_n 0, 1) := by decide +kernel
theorem dX8_offer_64 : decode cX8_offer 64 = .ok (.getfield 16, 3) := by decide +kernel
theorem dX8_offer_67 : decode cX8_offer 67 = .ok (.iload_n 1, 1) := by decide +kernel
theorem dX8_offer_68 : decode cX8_offer 68 = .ok (.iload_n 3, 1) := by decide +kernel
theorem dX8_offer_69 : decode cX8_offer 69 = .ok (.iastore, 1) := by decide +kernel
theorem dX8_offer_70 : decode cX8_offer 70 = .ok (.iconst 1, 1) := by decide +kernel
theorem dX8_offer_71 : decode cX8_offer 71 = .ok (.ireturn, 1) := by decide +kernel
theorem dX8_offer_72 : decode cX8_offer 72 = .ok (.iload_n 2, 1) := by decide +kernel
theorem dX8_offer_73 : decode cX8_offer 73 = .ok (.aload_n 0, 1) := by decide +kernel
theorem dX8_offer_74 : decode cX8_offer 74 = .ok (.getfield 90, 3) := by decide +kernel
theorem dX8_offer_77 : decode cX8_offer 77 = .ok (.iload_n 1, 1) := by decide +kernel
theorem dX8_offer_78 : decode cX8_offer 78 = .ok (.invokestatic 93, 3) := by decide +kernel
theorem dX8_offer_81 : decode cX8_offer 81 = .ok (.ifCond .eq 12, 3) := by decide +kernel
theorem dX8_offer_84 : decode cX8_offer 84 = .ok (.aload_n 0, 1) := by decide +kernel
theorem dX8_offer_85 : decode cX8_offer 85 = .ok (.getfield 13, 3) := by decide +kernel
theorem dX8_offer_88 : decode cX8_offer 88 = .ok (.iload_n 1, 1) := by decide +kernel
theorem dX8_offer_89 : decode cX8_offer 89 = .ok (.iaload, 1) := by decide +kernel
theorem dX8_offer_90 : decode cX8_offer 90 = .ok (.goto 9, 3) := by decide +kernel
theorem dX8_offer_93 : decode cX8_offer 93 = .ok (.aload_n 0, 1) := by decide +kernel
theorem dX8_offer_94 : decode cX8_offer 94 = .ok (.getfield 9, 3) := by decide +kernel
theorem dX8_offer_97 : decode cX8_offer 97 = .ok (.iload_n 1, 1) := by decide +kernel
theorem dX8_offer_98 : decode cX8_offer 98 = .ok (.iaload, 1) := by decide +kernel
theorem dX8_offer_99 : decode cX8_offer 99 = .ok (.if_icmp .ne 5, 3) := by decide +kernel
theorem dX8_offer_102 : decode cX8_offer 102 = .ok (.iconst 0, 1) := by decide +kernel
theorem dX8_offer_103 : decode cX8_offer 103 = .ok (.ireturn, 1) := by decide +kernel
theorem dX8_offer_104 : decode cX8_offer 104 = .ok (.aload_n 0, 1) := by decide +kernel
theorem dX8_offer_105 : decode cX8_offer 105 = .ok (.getfield 19, 3) := by decide +kernel
theorem dX8_offer_108 : decode cX8_offer 108 = .ok (.iload_n 1, 1) := by decide +kernel
theorem dX8_offer_109 : decode cX8_offer 109 = .ok (.iload_n 2, 1) := by decide +kernel
theorem dX8_offer_110 : decode cX8_offer 110 = .ok (.iastore, 1) := by decide +kernel
theorem dX8_offer_111 : decode cX8_offer 111 = .ok (.aload_n 0, 1) := by decide +kernel
theorem dX8_offer_112 : decode cX8_offer 112 = .ok (.getfield 22, 3) := by decide +kernel
theorem dX8_offer_115 : decode cX8_offer 115 = .ok (.iload_n 1, 1) := by decide +kernel
theorem dX8_offer_116 : decode cX8_offer 116 = .ok (.iload_n 3, 1) := by decide +kernel
theorem dX8_offer_117 : decode cX8_offer 117 = .ok (.iastore, 1) := by decide +kernel
theorem dX8_offer_118 : decode cX8_offer 118 = .ok (.iconst 1, 1) := by decide +kernel
theorem dX8_offer_119 : decode cX8_offer 119 = .ok (.ireturn, 1) := by decide +kernel
theorem dX8_withdraw_0 : decode cX8_withdraw 0 = .ok (.aload_n 0, 1) := by decide +kernel
theorem dX8_withdraw_1 : decode cX8_withdraw 1 = .ok (.iconst 0, 1) := by decide +kernel
theorem dX8_withdraw_2 : decode cX8_withdraw 2 = .ok (.putfield 71, 3) := by decide +kernel
theorem dX8_withdraw_5 : decode cX8_withdraw 5 = .ok (.aload_n 0, 1) := by decide +kernel
theorem dX8_withdraw_6 : decode cX8_withdraw 6 = .ok (.iload_n 1, 1) := by decide +kernel
theorem dX8_withdraw_7 : decode cX8_withdraw 7 = .ok (.invokevirtual 86, 3) := by decide +kernel
theorem dX8_withdraw_10 : decode cX8_withdraw 10 = .ok (.ifCond .eq 29, 3) := by decide +kernel
theorem dX8_withdraw_13 : decode cX8_withdraw 13 = .ok (.aload_n 0, 1) := by decide +kernel
theorem dX8_withdraw_14 : decode cX8_withdraw 14 = .ok (.getfield 78, 3) := by decide +kernel
theorem dX8_withdraw_17 : decode cX8_withdraw 17 = .ok (.ifCond .eq 12, 3) := by decide +kernel
theorem dX8_withdraw_20 : decode cX8_withdraw 20 = .ok (.aload_n 0, 1) := by decide +kernel
theorem dX8_withdraw_21 : decode cX8_withdraw 21 = .ok (.getfield 19, 3) := by decide +kernel
theorem dX8_withdraw_24 : decode cX8_withdraw 24 = .ok (.iload_n 1, 1) := by decide +kernel
theorem dX8_withdraw_25 : decode cX8_withdraw 25 = .ok (.iaload, 1) := by decide +kernel
theorem dX8_withdraw_26 : decode cX8_withdraw 26 = .ok (.goto 9, 3) := by decide +kernel
theorem dX8_withdraw_29 : decode cX8_withdraw 29 = .ok (.aload_n 0, 1) := by decide +kernel
theorem dX8_withdraw_30 : decode cX8_withdraw 30 = .ok (.getfield 13, 3) := by decide +kernel
theorem dX8_withdraw_33 : decode cX8_withdraw 33 = .ok (.iload_n 1, 1) := by decide +kernel
theorem dX8_withdraw_34 : decode cX8_withdraw 34 = .ok (.iaload, 1) := by decide +kernel
theorem dX8_withdraw_35 : decode cX8_withdraw 35 = .ok (.iconst (-1), 1) := by decide +kernel
theorem dX8_withdraw_36 : decode cX8_withdraw 36 = .ok (.if_icmp .ne 5, 3) := by decide +kernel
theorem dX8_withdraw_39 : decode cX8_withdraw 39 = .ok (.iconst 0, 1) := by decide +kernel
theorem dX8_withdraw_40 : decode cX8_withdraw 40 = .ok (.ireturn, 1) := by decide +kernel
theorem dX8_withdraw_41 : decode cX8_withdraw 41 = .ok (.aload_n 0, 1) := by decide +kernel
theorem dX8_withdraw_42 : decode cX8_withdraw 42 = .ok (.getfield 78, 3) := by decide +kernel
theorem dX8_withdraw_45 : decode cX8_withdraw 45 = .ok (.ifCond .eq 13, 3) := by decide +kernel
theorem dX8_withdraw_48 : decode cX8_withdraw 48 = .ok (.aload_n 0, 1) := by decide +kernel
theorem dX8_withdraw_49 : decode cX8_withdraw 49 = .ok (.getfield 19, 3) := by decide +kernel
theorem dX8_withdraw_52 : decode cX8_withdraw 52 = .ok (.iload_n 1, 1) := by decide +kernel
theorem dX8_withdraw_53 : decode cX8_withdraw 53 = .ok (.iconst (-1), 1) := by decide +kernel
theorem dX8_withdraw_54 : decode cX8_withdraw 54 = .ok (.iastore, 1) := by decide +kernel
theorem dX8_withdraw_55 : decode cX8_withdraw 55 = .ok (.goto 10, 3) := by decide +kernel
theorem dX8_withdraw_58 : decode cX8_withdraw 58 = .ok (.aload_n 0, 1) := by decide +kernel
theorem dX8_withdraw_59 : decode cX8_withdraw 59 = .ok (.getfield 13, 3) := by decide +kernel
theorem dX8_withdraw_62 : decode cX8_withdraw 62 = .ok (.iload_n 1, 1) := by decide +kernel
theorem dX8_withdraw_63 : decode cX8_withdraw 63 = .ok (.iconst (-1), 1) := by decide +kernel
theorem dX8_withdraw_64 : decode cX8_withdraw 64 = .ok (.iastore, 1) := by decide +kernel
theorem dX8_withdraw_65 : decode cX8_withdraw 65 = .ok (.iconst 1, 1) := by decide +kernel
theorem dX8_withdraw_66 : decode cX8_withdraw 66 = .ok (.ireturn, 1) := by decide +kernel
theorem dX8_need_0 : decode cX8_need 0 = .ok (.aload_n 0, 1) := by decide +kernel
theorem dX8_need_1 : decode cX8_need 1 = .ok (.iconst 0, 1) := by decide +kernel
theorem dX8_need_2 : decode cX8_need 2 = .ok (.putfield 71, 3) := by decide +kernel
theorem dX8_need_5 : decode cX8_need 5 = .ok (.aload_n 0, 1) := by decide +kernel
theorem dX8_need_6 : decode cX8_need 6 = .ok (.getfield 78, 3) := by decide +kernel
theorem dX8_need_9 : decode cX8_need 9 = .ok (.ifCond .ne 69, 3) := by decide +kernel
theorem dX8_need_12 : decode cX8_need 12 = .ok (.aload_n 0, 1) := by decide +kernel
theorem dX8_need_13 : decode cX8_need 13 = .ok (.getfield 97, 3) := by decide +kernel
theorem dX8_need_16 : decode cX8_need 16 = .ok (.bipush 30, 2) := by decide +kernel
theorem dX8_need_18 : decode cX8_need 18 = .ok (.if_icmp .eq 60, 3) := by decide +kernel
theorem dX8_need_21 : decode cX8_need 21 = .ok (.aload_n 0, 1) := by decide +kernel
theorem dX8_need_22 : decode cX8_need 22 = .ok (.iload_n 1, 1) := by decide +kernel
theorem dX8_need_23 : decode cX8_need 23 = .ok (.invokevirtual 86, 3) := by decide +kernel
theorem dX8_need_26 : decode cX8_need 26 = .ok (.ifCond .eq 52, 3) := by decide +kernel
theorem dX8_need_29 : decode cX8_need 29 = .ok (.aload_n 0, 1) := by decide +kernel
theorem dX8_need_30 : decode cX8_need 30 = .ok (.iload_n 3, 1) := by decide +kernel
theorem dX8_need_31 : decode cX8_need 31 = .ok (.invokevirtual 86, 3) := by decide +kernel
theorem dX8_need_34 : decode cX8_need 34 = .ok (.ifCond .eq 44, 3) := by decide +kernel
theorem dX8_need_37 : decode cX8_need 37 = .ok (.iload_n 1, 1) := by decide +kernel
theorem dX8_need_38 : decode cX8_need 38 = .ok (.iload_n 3, 1) := by decide +kernel
theorem dX8_need_39 : decode cX8_need 39 = .ok (.if_icmp .eq 39, 3) := by decide +kernel
theorem dX8_need_42 : decode cX8_need 42 = .ok (.iload_n 2, 1) := by decide +kernel
theorem dX8_need_43 : decode cX8_need 43 = .ok (.iconst 0, 1) := by decide +kernel
theorem dX8_need_44 : decode cX8_need 44 = .ok (.sipush 1000, 3) := by decide +kernel
theorem dX8_need_47 : decode cX8_need 47 = .ok (.invokestatic 82, 3) := by decide +kernel
theorem dX8_need_50 : decode cX8_need 50 = .ok (.ifCond .eq 28, 3) := by decide +kernel
theorem dX8_need_53 : decode cX8_need 53 = .ok (.iload 4, 2) := by decide +kernel
theorem dX8_need_55 : decode cX8_need 55 = .ok (.iconst 0, 1) := by decide +kernel
theorem dX8_need_56 : decode cX8_need 56 = .ok (.sipush 1000, 3) := by decide +kernel
theorem dX8_need_59 : decode cX8_need 59 = .ok (.invokestatic 82, 3) := by decide +kernel
theorem dX8_need_62 : decode cX8_need 62 = .ok (.ifCond .eq 16, 3) := by decide +kernel
theorem dX8_need_65 : decode cX8_need 65 = .ok (.iload 5, 2) := by decide +kernel
theorem dX8_need_67 : decode cX8_need 67 = .ok (.iload 4, 2) := by decide +kernel
theorem dX8_need_69 : decode cX8_need 69 = .ok (.sipush 1000, 3) := by decide +kernel
theorem dX8_need_72 : decode cX8_need 72 = .ok (.invokestatic 82, 3) := by decide +kernel
theorem dX8_need_75 : decode cX8_need 75 = .ok (.ifCond .ne 5, 3) := by decide +kernel
theorem dX8_need_78 : decode cX8_need 78 = .ok (.iconst (-1), 1) := by decide +kernel
theorem dX8_need_79 : decode cX8_need 79 = .ok (.ireturn, 1) := by decide +kernel
theorem dX8_need_80 : decode cX8_need 80 = .ok (.aload_n 0, 1) := by decide +kernel
theorem dX8_need_81 : decode cX8_need 81 = .ok (.getfield 25, 3) := by decide +kernel
theorem dX8_need_84 : decode cX8_need 84 = .ok (.aload_n 0, 1) := by decide +kernel
theorem dX8_need_85 : decode cX8_need 85 = .ok (.getfield 97, 3) := by decide +kernel
theorem dX8_need_88 : decode cX8_need 88 = .ok (.iload_n 1, 1) := by decide +kernel
theorem dX8_need_89 : decode cX8_need 89 = .ok (.iastore, 1) := by decide +kernel
theorem dX8_need_90 : decode cX8_need 90 = .ok (.aload_n 0, 1) := by decide +kernel
theorem dX8_need_91 : decode cX8_need 91 = .ok (.getfield 28, 3) := by decide +kernel
theorem dX8_need_94 : decode cX8_need 94 = .ok (.aload_n 0, 1) := by decide +kernel
theorem dX8_need_95 : decode cX8_need 95 = .ok (.getfield 97, 3) := by decide +kernel
theorem dX8_need_98 : decode cX8_need 98 = .ok (.iload_n 2, 1) := by decide +kernel
theorem dX8_need_99 : decode cX8_need 99 = .ok (.iastore, 1) := by decide +kernel
theorem dX8_need_100 : decode cX8_need 100 = .ok (.aload_n 0, 1) := by decide +kernel
theorem dX8_need_101 : decode cX8_need 101 = .ok (.getfield 31, 3) := by decide +kernel
theorem dX8_need_104 : decode cX8_need 104 = .ok (.aload_n 0, 1) := by decide +kernel
theorem dX8_need_105 : decode cX8_need 105 = .ok (.getfield 97, 3) := by decide +kernel
theorem dX8_need_108 : decode cX8_need 108 = .ok (.iload_n 3, 1) := by decide +kernel
theorem dX8_need_109 : decode cX8_need 109 = .ok (.iastore, 1) := by decide +kernel
theorem dX8_need_110 : decode cX8_need 110 = .ok (.aload_n 0, 1) := by decide +kernel
theorem dX8_need_111 : decode cX8_need 111 = .ok (.getfield 34, 3) := by decide +kernel
theorem dX8_need_114 : decode cX8_need 114 = .ok (.aload_n 0, 1) := by decide +kernel
theorem dX8_need_115 : decode cX8_need 115 = .ok (.getfield 97, 3) := by decide +kernel
theorem dX8_need_118 : decode cX8_need 118 = .ok (.iload 4, 2) := by decide +kernel
theorem dX8_need_120 : decode cX8_need 120 = .ok (.iastore, 1) := by decide +kernel
theorem dX8_need_121 : decode cX8_need 121 = .ok (.aload_n 0, 1) := by decide +kernel
theorem dX8_need_122 : decode cX8_need 122 = .ok (.getfield 37, 3) := by decide +kernel
theorem dX8_need_125 : decode cX8_need 125 = .ok (.aload_n 0, 1) := by decide +kernel
theorem dX8_need_126 : decode cX8_need 126 = .ok (.getfield 97, 3) := by decide +kernel
theorem dX8_need_129 : decode cX8_need 129 = .ok (.iload 5, 2) := by decide +kernel
theorem dX8_need_131 : decode cX8_need 131 = .ok (.iastore, 1) := by decide +kernel
theorem dX8_need_132 : decode cX8_need 132 = .ok (.aload_n 0, 1) := by decide +kernel
theorem dX8_need_133 : decode cX8_need 133 = .ok (.dup, 1) := by decide +kernel
theorem dX8_need_134 : decode cX8_need 134 = .ok (.getfield 97, 3) := by decide +kernel
theorem dX8_need_137 : decode cX8_need 137 = .ok (.iconst 1, 1) := by decide +kernel
theorem dX8_need_138 : decode cX8_need 138 = .ok (.iadd, 1) := by decide +kernel
theorem dX8_need_139 : decode cX8_need 139 = .ok (.putfield 97, 3) := by decide +kernel
theorem dX8_need_142 : decode cX8_need 142 = .ok (.aload_n 0, 1) := by decide +kernel
theorem dX8_need_143 : decode cX8_need 143 = .ok (.getfield 97, 3) := by decide +kernel
theorem dX8_need_146 : decode cX8_need 146 = .ok (.iconst 1, 1) := by decide +kernel
theorem dX8_need_147 : decode cX8_need 147 = .ok (.isub, 1) := by decide +kernel
theorem dX8_need_148 : decode cX8_need 148 = .ok (.ireturn, 1) := by decide +kernel
theorem dX8_isSet_0 : decode cX8_isSet 0 = .ok (.iload_n 1, 1) := by decide +kernel
theorem dX8_isSet_1 : decode cX8_isSet 1 = .ok (.iconst 0, 1) := by decide +kernel
theorem dX8_isSet_2 : decode cX8_isSet 2 = .ok (.iconst 1, 1) := by decide +kernel
theorem dX8_isSet_3 : decode cX8_isSet 3 = .ok (.aload_n 0, 1) := by decide +kernel
theorem dX8_isSet_4 : decode cX8_isSet 4 = .ok (.getfield 75, 3) := by decide +kernel
theorem dX8_isSet_7 : decode cX8_isSet 7 = .ok (.ishl, 1) := by decide +kernel
theorem dX8_isSet_8 : decode cX8_isSet 8 = .ok (.iconst 1, 1) := by decide +kernel
theorem dX8_isSet_9 : decode cX8_isSet 9 = .ok (.isub, 1) := by decide +kernel
theorem dX8_isSet_10 : decode cX8_isSet 10 = .ok (.invokestatic 82, 3) := by decide +kernel
theorem dX8_isSet_13 : decode cX8_isSet 13 = .ok (.ireturn, 1) := by decide +kernel
theorem dX8_test_0 : decode cX8_test 0 = .ok (.aload_n 0, 1) := by decide +kernel
theorem dX8_test_1 : decode cX8_test 1 = .ok (.iconst 0, 1) := by decide +kernel
theorem dX8_test_2 : decode cX8_test 2 = .ok (.putfield 71, 3) := by decide +kernel
theorem dX8_test_5 : decode cX8_test 5 = .ok (.aload_n 0, 1) := by decide +kernel
theorem dX8_test_6 : decode cX8_test 6 = .ok (.getfield 78, 3) := by decide +kernel
theorem dX8_test_9 : decode cX8_test 9 = .ok (.ifCond .ne 24, 3) := by decide +kernel
theorem dX8_test_12 : decode cX8_test 12 = .ok (.aload_n 0, 1) := by decide +kernel
theorem dX8_test_13 : decode cX8_test 13 = .ok (.getfield 100, 3) := by decide +kernel
theorem dX8_test_16 : decode cX8_test 16 = .ok (.bipush 12, 2) := by decide +kernel
theorem dX8_test_18 : decode cX8_test 18 = .ok (.if_icmp .eq 15, 3) := by decide +kernel
theorem dX8_test_21 : decode cX8_test 21 = .ok (.aload_n 0, 1) := by decide +kernel
theorem dX8_test_22 : decode cX8_test 22 = .ok (.iload_n 1, 1) := by decide +kernel
theorem dX8_test_23 : decode cX8_test 23 = .ok (.invokevirtual 103, 3) := by decide +kernel
theorem dX8_test_26 : decode cX8_test 26 = .ok (.ifCond .eq 7, 3) := by decide +kernel
theorem dX8_test_29 : decode cX8_test 29 = .ok (.iload_n 1, 1) := by decide +kernel
theorem dX8_test_30 : decode cX8_test 30 = .ok (.ifCond .ne 5, 3) := by decide +kernel
theorem dX8_test_33 : decode cX8_test 33 = .ok (.iconst (-1), 1) := by decide +kernel
theorem dX8_test_34 : decode cX8_test 34 = .ok (.ireturn, 1) := by decide +kernel
theorem dX8_test_35 : decode cX8_test 35 = .ok (.aload_n 0, 1) := by decide +kernel
theorem dX8_test_36 : decode cX8_test 36 = .ok (.getfield 40, 3) := by decide +kernel
theorem dX8_test_39 : decode cX8_test 39 = .ok (.aload_n 0, 1) := by decide +kernel
theorem dX8_test_40 : decode cX8_test 40 = .ok (.getfield 100, 3) := by decide +kernel
theorem dX8_test_43 : decode cX8_test 43 = .ok (.iload_n 1, 1) := by decide +kernel
theorem dX8_test_44 : decode cX8_test 44 = .ok (.iastore, 1) := by decide +kernel
theorem dX8_test_45 : decode cX8_test 45 = .ok (.aload_n 0, 1) := by decide +kernel
theorem dX8_test_46 : decode cX8_test 46 = .ok (.dup, 1) := by decide +kernel
theorem dX8_test_47 : decode cX8_test 47 = .ok (.getfield 100, 3) := by decide +kernel
theorem dX8_test_50 : decode cX8_test 50 = .ok (.iconst 1, 1) := by decide +kernel
theorem dX8_test_51 : decode cX8_test 51 = .ok (.iadd, 1) := by decide +kernel
theorem dX8_test_52 : decode cX8_test 52 = .ok (.putfield 100, 3) := by decide +kernel
theorem dX8_test_55 : decode cX8_test 55 = .ok (.aload_n 0, 1) := by decide +kernel
theorem dX8_test_56 : decode cX8_test 56 = .ok (.getfield 100, 3) := by decide +kernel
theorem dX8_test_59 : decode cX8_test 59 = .ok (.iconst 1, 1) := by decide +kernel
theorem dX8_test_60 : decode cX8_test 60 = .ok (.isub, 1) := by decide +kernel
theorem dX8_test_61 : decode cX8_test 61 = .ok (.ireturn, 1) := by decide +kernel
theorem dX8_version_0 : decode cX8_version 0 = .ok (.iload_n 2, 1) := by decide +kernel
theorem dX8_version_1 : decode cX8_version 1 = .ok (.iload_n 1, 1) := by decide +kernel
theorem dX8_version_2 : decode cX8_version 2 = .ok (.invokestatic 93, 3) := by decide +kernel
theorem dX8_version_5 : decode cX8_version 5 = .ok (.ifCond .eq 12, 3) := by decide +kernel
theorem dX8_version_8 : decode cX8_version 8 = .ok (.aload_n 0, 1) := by decide +kernel
theorem dX8_version_9 : decode cX8_version 9 = .ok (.getfield 13, 3) := by decide +kernel
theorem dX8_version_12 : decode cX8_version 12 = .ok (.iload_n 1, 1) := by decide +kernel
theorem dX8_version_13 : decode cX8_version 13 = .ok (.iaload, 1) := by decide +kernel
theorem dX8_version_14 : decode cX8_version 14 = .ok (.goto 9, 3) := by decide +kernel
theorem dX8_version_17 : decode cX8_version 17 = .ok (.aload_n 0, 1) := by decide +kernel
theorem dX8_version_18 : decode cX8_version 18 = .ok (.getfield 9, 3) := by decide +kernel
theorem dX8_version_21 : decode cX8_version 21 = .ok (.iload_n 1, 1) := by decide +kernel
theorem dX8_version_22 : decode cX8_version 22 = .ok (.iaload, 1) := by decide +kernel
theorem dX8_version_23 : decode cX8_version 23 = .ok (.ireturn, 1) := by decide +kernel
theorem dX8_broken_0 : decode cX8_broken 0 = .ok (.iconst 0, 1) := by decide +kernel
theorem dX8_broken_1 : decode cX8_broken 1 = .ok (.istore_n 2, 1) := by decide +kernel
theorem dX8_broken_2 : decode cX8_broken 2 = .ok (.iload_n 2, 1) := by decide +kernel
theorem dX8_broken_3 : decode cX8_broken 3 = .ok (.aload_n 0, 1) := by decide +kernel
theorem dX8_broken_4 : decode cX8_broken 4 = .ok (.getfield 97, 3) := by decide +kernel
theorem dX8_broken_7 : decode cX8_broken 7 = .ok (.if_icmp .ge 60, 3) := by decide +kernel
theorem dX8_broken_10 : decode cX8_broken 10 = .ok (.aload_n 0, 1) := by decide +kernel
theorem dX8_broken_11 : decode cX8_broken 11 = .ok (.aload_n 0, 1) := by decide +kernel
theorem dX8_broken_12 : decode cX8_broken 12 = .ok (.getfield 25, 3) := by decide +kernel
theorem dX8_broken_15 : decode cX8_broken 15 = .ok (.iload_n 2, 1) := by decide +kernel
theorem dX8_broken_16 : decode cX8_broken 16 = .ok (.iaload, 1) := by decide +kernel
theorem dX8_broken_17 : decode cX8_broken 17 = .ok (.iload_n 1, 1) := by decide +kernel
theorem dX8_broken_18 : decode cX8_broken 18 = .ok (.invokevirtual 106, 3) := by decide +kernel
theorem dX8_broken_21 : decode cX8_broken 21 = .ok (.aload_n 0, 1) := by decide +kernel
theorem dX8_broken_22 : decode cX8_broken 22 = .ok (.getfield 28, 3) := by decide +kernel
theorem dX8_broken_25 : decode cX8_broken 25 = .ok (.iload_n 2, 1) := by decide +kernel
theorem dX8_broken_26 : decode cX8_broken 26 = .ok (.iaload, 1) := by decide +kernel
theorem dX8_broken_27 : decode cX8_broken 27 = .ok (.if_icmp .ne 34, 3) := by decide +kernel
theorem dX8_broken_30 : decode cX8_broken 30 = .ok (.aload_n 0, 1) := by decide +kernel
theorem dX8_broken_31 : decode cX8_broken 31 = .ok (.aload_n 0, 1) := by decide +kernel
theorem dX8_broken_32 : decode cX8_broken 32 = .ok (.getfield 31, 3) := by decide +kernel
theorem dX8_broken_35 : decode cX8_broken 35 = .ok (.iload_n 2, 1) := by decide +kernel
theorem dX8_broken_36 : decode cX8_broken 36 = .ok (.iaload, 1) := by decide +kernel
theorem dX8_broken_37 : decode cX8_broken 37 = .ok (.iload_n 1, 1) := by decide +kernel
theorem dX8_broken_38 : decode cX8_broken 38 = .ok (.invokevirtual 106, 3) := by decide +kernel
theorem dX8_broken_41 : decode cX8_broken 41 = .ok (.aload_n 0, 1) := by decide +kernel
theorem dX8_broken_42 : decode cX8_broken 42 = .ok (.getfield 34, 3) := by decide +kernel
theorem dX8_broken_45 : decode cX8_broken 45 = .ok (.iload_n 2, 1) := by decide +kernel
theorem dX8_broken_46 : decode cX8_broken 46 = .ok (.iaload, 1) := by decide +kernel
theorem dX8_broken_47 : decode cX8_broken 47 = .ok (.aload_n 0, 1) := by decide +kernel
theorem dX8_broken_48 : decode cX8_broken 48 = .ok (.getfield 37, 3) := by decide +kernel
theorem dX8_broken_51 : decode cX8_broken 51 = .ok (.iload_n 2, 1) := by decide +kernel
theorem dX8_broken_52 : decode cX8_broken 52 = .ok (.iaload, 1) := by decide +kernel
theorem dX8_broken_53 : decode cX8_broken 53 = .ok (.invokestatic 82, 3) := by decide +kernel
theorem dX8_broken_56 : decode cX8_broken 56 = .ok (.ifCond .ne 5, 3) := by decide +kernel
theorem dX8_broken_59 : decode cX8_broken 59 = .ok (.iload_n 2, 1) := by decide +kernel
theorem dX8_broken_60 : decode cX8_broken 60 = .ok (.ireturn, 1) := by decide +kernel
theorem dX8_broken_61 : decode cX8_broken 61 = .ok (.iinc 2 1, 3) := by decide +kernel
theorem dX8_broken_64 : decode cX8_broken 64 = .ok (.goto (-62), 3) := by decide +kernel
theorem dX8_broken_67 : decode cX8_broken 67 = .ok (.iconst (-1), 1) := by decide +kernel
theorem dX8_broken_68 : decode cX8_broken 68 = .ok (.ireturn, 1) := by decide +kernel
theorem dX8_redOf_0 : decode cX8_redOf 0 = .ok (.iconst 0, 1) := by decide +kernel
theorem dX8_redOf_1 : decode cX8_redOf 1 = .ok (.istore_n 2, 1) := by decide +kernel
theorem dX8_redOf_2 : decode cX8_redOf 2 = .ok (.iload_n 2, 1) := by decide +kernel
theorem dX8_redOf_3 : decode cX8_redOf 3 = .ok (.aload_n 0, 1) := by decide +kernel
theorem dX8_redOf_4 : decode cX8_redOf 4 = .ok (.getfield 100, 3) := by decide +kernel
theorem dX8_redOf_7 : decode cX8_redOf 7 = .ok (.if_icmp .ge 28, 3) := by decide +kernel
theorem dX8_redOf_10 : decode cX8_redOf 10 = .ok (.aload_n 0, 1) := by decide +kernel
theorem dX8_redOf_11 : decode cX8_redOf 11 = .ok (.getfield 40, 3) := by decide +kernel
theorem dX8_redOf_14 : decode cX8_redOf 14 = .ok (.iload_n 2, 1) := by decide +kernel
theorem dX8_redOf_15 : decode cX8_redOf 15 = .ok (.iaload, 1) := by decide +kernel
theorem dX8_redOf_16 : decode cX8_redOf 16 = .ok (.iload_n 1, 1) := by decide +kernel
theorem dX8_redOf_17 : decode cX8_redOf 17 = .ok (.iand, 1) := by decide +kernel
theorem dX8_redOf_18 : decode cX8_redOf 18 = .ok (.aload_n 0, 1) := by decide +kernel
theorem dX8_redOf_19 : decode cX8_redOf 19 = .ok (.getfield 40, 3) := by decide +kernel
theorem dX8_redOf_22 : decode cX8_redOf 22 = .ok (.iload_n 2, 1) := by decide +kernel
theorem dX8_redOf_23 : decode cX8_redOf 23 = .ok (.iaload, 1) := by decide +kernel
theorem dX8_redOf_24 : decode cX8_redOf 24 = .ok (.if_icmp .ne 5, 3) := by decide +kernel
theorem dX8_redOf_27 : decode cX8_redOf 27 = .ok (.iload_n 2, 1) := by decide +kernel
theorem dX8_redOf_28 : decode cX8_redOf 28 = .ok (.ireturn, 1) := by decide +kernel
theorem dX8_redOf_29 : decode cX8_redOf 29 = .ok (.iinc 2 1, 3) := by decide +kernel
theorem dX8_redOf_32 : decode cX8_redOf 32 = .ok (.goto (-30), 3) := by decide +kernel
theorem dX8_redOf_35 : decode cX8_redOf 35 = .ok (.iconst (-1), 1) := by decide +kernel
theorem dX8_redOf_36 : decode cX8_redOf 36 = .ok (.ireturn, 1) := by decide +kernel
theorem dX8_offered_0 : decode cX8_offered 0 = .ok (.iconst 0, 1) := by decide +kernel
theorem dX8_offered_1 : decode cX8_offered 1 = .ok (.istore_n 1, 1) := by decide +kernel
theorem dX8_offered_2 : decode cX8_offered 2 = .ok (.iconst 0, 1) := by decide +kernel
theorem dX8_offered_3 : decode cX8_offered 3 = .ok (.istore_n 2, 1) := by decide +kernel
theorem dX8_offered_4 : decode cX8_offered 4 = .ok (.iload_n 2, 1) := by decide +kernel
theorem dX8_offered_5 : decode cX8_offered 5 = .ok (.aload_n 0, 1) := by decide +kernel
theorem dX8_offered_6 : decode cX8_offered 6 = .ok (.getfield 75, 3) := by decide +kernel
theorem dX8_offered_9 : decode cX8_offered 9 = .ok (.if_icmp .ge 29, 3) := by decide +kernel
theorem dX8_offered_12 : decode cX8_offered 12 = .ok (.iload_n 1, 1) := by decide +kernel
theorem dX8_offered_13 : decode cX8_offered 13 = .ok (.aload_n 0, 1) := by decide +kernel
theorem dX8_offered_14 : decode cX8_offered 14 = .ok (.getfield 13, 3) := by decide +kernel
theorem dX8_offered_17 : decode cX8_offered 17 = .ok (.iload_n 2, 1) := by decide +kernel
theorem dX8_offered_18 : decode cX8_offered 18 = .ok (.iaload, 1) := by decide +kernel
theorem dX8_offered_19 : decode cX8_offered 19 = .ok (.iconst (-1), 1) := by decide +kernel
theorem dX8_offered_20 : decode cX8_offered 20 = .ok (.if_icmp .eq 9, 3) := by decide +kernel
theorem dX8_offered_23 : decode cX8_offered 23 = .ok (.iconst 1, 1) := by decide +kernel
theorem dX8_offered_24 : decode cX8_offered 24 = .ok (.iload_n 2, 1) := by decide +kernel
theorem dX8_offered_25 : decode cX8_offered 25 = .ok (.ishl, 1) := by decide +kernel
theorem dX8_offered_26 : decode cX8_offered 26 = .ok (.goto 4, 3) := by decide +kernel
theorem dX8_offered_29 : decode cX8_offered 29 = .ok (.iconst 0, 1) := by decide +kernel
theorem dX8_offered_30 : decode cX8_offered 30 = .ok (.ior, 1) := by decide +kernel
theorem dX8_offered_31 : decode cX8_offered 31 = .ok (.istore_n 1, 1) := by decide +kernel
theorem dX8_offered_32 : decode cX8_offered 32 = .ok (.iinc 2 1, 3) := by decide +kernel
theorem dX8_offered_35 : decode cX8_offered 35 = .ok (.goto (-31), 3) := by decide +kernel
theorem dX8_offered_38 : decode cX8_offered 38 = .ok (.iload_n 1, 1) := by decide +kernel
theorem dX8_offered_39 : decode cX8_offered 39 = .ok (.ireturn, 1) := by decide +kernel
theorem dX8_goes_0 : decode cX8_goes 0 = .ok (.iload_n 1, 1) := by decide +kernel
theorem dX8_goes_1 : decode cX8_goes 1 = .ok (.aload_n 0, 1) := by decide +kernel
theorem dX8_goes_2 : decode cX8_goes 2 = .ok (.invokevirtual 110, 3) := by decide +kernel
theorem dX8_goes_5 : decode cX8_goes 5 = .ok (.iconst (-1), 1) := by decide +kernel
theorem dX8_goes_6 : decode cX8_goes 6 = .ok (.ixor, 1) := by decide +kernel
theorem dX8_goes_7 : decode cX8_goes 7 = .ok (.iand, 1) := by decide +kernel
theorem dX8_goes_8 : decode cX8_goes 8 = .ok (.ifCond .ne 25, 3) := by decide +kernel
theorem dX8_goes_11 : decode cX8_goes 11 = .ok (.aload_n 0, 1) := by decide +kernel
theorem dX8_goes_12 : decode cX8_goes 12 = .ok (.iload_n 1, 1) := by decide +kernel
theorem dX8_goes_13 : decode cX8_goes 13 = .ok (.invokevirtual 114, 3) := by decide +kernel
theorem dX8_goes_16 : decode cX8_goes 16 = .ok (.iconst (-1), 1) := by decide +kernel
theorem dX8_goes_17 : decode cX8_goes 17 = .ok (.if_icmp .ne 16, 3) := by decide +kernel
theorem dX8_goes_20 : decode cX8_goes 20 = .ok (.aload_n 0, 1) := by decide +kernel
theorem dX8_goes_21 : decode cX8_goes 21 = .ok (.iload_n 1, 1) := by decide +kernel
theorem dX8_goes_22 : decode cX8_goes 22 = .ok (.invokevirtual 118, 3) := by decide +kernel
theorem dX8_goes_25 : decode cX8_goes 25 = .ok (.iconst (-1), 1) := by decide +kernel
theorem dX8_goes_26 : decode cX8_goes 26 = .ok (.if_icmp .ne 7, 3) := by decide +kernel
theorem dX8_goes_29 : decode cX8_goes 29 = .ok (.iconst 1, 1) := by decide +kernel
theorem dX8_goes_30 : decode cX8_goes 30 = .ok (.goto 4, 3) := by decide +kernel
theorem dX8_goes_33 : decode cX8_goes 33 = .ok (.iconst 0, 1) := by decide +kernel
theorem dX8_goes_34 : decode cX8_goes 34 = .ok (.ireturn, 1) := by decide +kernel
theorem dX8_worthOf_0 : decode cX8_worthOf 0 = .ok (.iconst 0, 1) := by decide +kernel
theorem dX8_worthOf_1 : decode cX8_worthOf 1 = .ok (.istore_n 2, 1) := by decide +kernel
theorem dX8_worthOf_2 : decode cX8_worthOf 2 = .ok (.iconst 0, 1) := by decide +kernel
theorem dX8_worthOf_3 : decode cX8_worthOf 3 = .ok (.istore_n 3, 1) := by decide +kernel
theorem dX8_worthOf_4 : decode cX8_worthOf 4 = .ok (.iload_n 3, 1) := by decide +kernel
theorem dX8_worthOf_5 : decode cX8_worthOf 5 = .ok (.aload_n 0, 1) := by decide +kernel
theorem dX8_worthOf_6 : decode cX8_worthOf 6 = .ok (.getfield 75, 3) := by decide +kernel
theorem dX8_worthOf_9 : decode cX8_worthOf 9 = .ok (.if_icmp .ge 30, 3) := by decide +kernel
theorem dX8_worthOf_12 : decode cX8_worthOf 12 = .ok (.iload_n 2, 1) := by decide +kernel
theorem dX8_worthOf_13 : decode cX8_worthOf 13 = .ok (.iload_n 1, 1) := by decide +kernel
theorem dX8_worthOf_14 : decode cX8_worthOf 14 = .ok (.iload_n 3, 1) := by decide +kernel
theorem dX8_worthOf_15 : decode cX8_worthOf 15 = .ok (.invokestatic 93, 3) := by decide +kernel
theorem dX8_worthOf_18 : decode cX8_worthOf 18 = .ok (.ifCond .eq 12, 3) := by decide +kernel
theorem dX8_worthOf_21 : decode cX8_worthOf 21 = .ok (.aload_n 0, 1) := by decide +kernel
theorem dX8_worthOf_22 : decode cX8_worthOf 22 = .ok (.getfield 16, 3) := by decide +kernel
theorem dX8_worthOf_25 : decode cX8_worthOf 25 = .ok (.iload_n 3, 1) := by decide +kernel
theorem dX8_worthOf_26 : decode cX8_worthOf 26 = .ok (.iaload, 1) := by decide +kernel
theorem dX8_worthOf_27 : decode cX8_worthOf 27 = .ok (.goto 4, 3) := by decide +kernel
theorem dX8_worthOf_30 : decode cX8_worthOf 30 = .ok (.iconst 0, 1) := by decide +kernel
theorem dX8_worthOf_31 : decode cX8_worthOf 31 = .ok (.iadd, 1) := by decide +kernel
theorem dX8_worthOf_32 : decode cX8_worthOf 32 = .ok (.istore_n 2, 1) := by decide +kernel
theorem dX8_worthOf_33 : decode cX8_worthOf 33 = .ok (.iinc 3 1, 3) := by decide +kernel
theorem dX8_worthOf_36 : decode cX8_worthOf 36 = .ok (.goto (-32), 3) := by decide +kernel
theorem dX8_worthOf_39 : decode cX8_worthOf 39 = .ok (.iload_n 2, 1) := by decide +kernel
theorem dX8_worthOf_40 : decode cX8_worthOf 40 = .ok (.ireturn, 1) := by decide +kernel
theorem dX8_best_0 : decode cX8_best 0 = .ok (.iconst (-1), 1) := by decide +kernel
theorem dX8_best_1 : decode cX8_best 1 = .ok (.istore_n 3, 1) := by decide +kernel
theorem dX8_best_2 : decode cX8_best 2 = .ok (.iconst 0, 1) := by decide +kernel
theorem dX8_best_3 : decode cX8_best 3 = .ok (.istore 4, 2) := by decide +kernel
theorem dX8_best_5 : decode cX8_best 5 = .ok (.iload 4, 2) := by decide +kernel
theorem dX8_best_7 : decode cX8_best 7 = .ok (.iconst 1, 1) := by decide +kernel
theorem dX8_best_8 : decode cX8_best 8 = .ok (.aload_n 0, 1) := by decide +kernel
theorem dX8_best_9 : decode cX8_best 9 = .ok (.getfield 75, 3) := by decide +kernel
theorem dX8_best_12 : decode cX8_best 12 = .ok (.ishl, 1) := by decide +kernel
theorem dX8_best_13 : decode cX8_best 13 = .ok (.if_icmp .ge 100, 3) := by decide +kernel
theorem dX8_best_16 : decode cX8_best 16 = .ok (.iload 4, 2) := by decide +kernel
theorem dX8_best_18 : decode cX8_best 18 = .ok (.iload_n 1, 1) := by decide +kernel
theorem dX8_best_19 : decode cX8_best 19 = .ok (.iand, 1) := by decide +kernel
theorem dX8_best_20 : decode cX8_best 20 = .ok (.iload_n 1, 1) := by decide +kernel
theorem dX8_best_21 : decode cX8_best 21 = .ok (.if_icmp .ne 86, 3) := by decide +kernel
theorem dX8_best_24 : decode cX8_best 24 = .ok (.iload 4, 2) := by decide +kernel
theorem dX8_best_26 : decode cX8_best 26 = .ok (.iload_n 2, 1) := by decide +kernel
theorem dX8_best_27 : decode cX8_best 27 = .ok (.iconst (-1), 1) := by decide +kernel
theorem dX8_best_28 : decode cX8_best 28 = .ok (.ixor, 1) := by decide +kernel
theorem dX8_best_29 : decode cX8_best 29 = .ok (.iand, 1) := by decide +kernel
theorem dX8_best_30 : decode cX8_best 30 = .ok (.ifCond .ne 77, 3) := by decide +kernel
theorem dX8_best_33 : decode cX8_best 33 = .ok (.aload_n 0, 1) := by decide +kernel
theorem dX8_best_34 : decode cX8_best 34 = .ok (.iload 4, 2) := by decide +kernel
theorem dX8_best_36 : decode cX8_best 36 = .ok (.invokevirtual 121, 3) := by decide +kernel
theorem dX8_best_39 : decode cX8_best 39 = .ok (.ifCond .ne 6, 3) := by decide +kernel
theorem dX8_best_42 : decode cX8_best 42 = .ok (.goto 65, 3) := by decide +kernel
theorem dX8_best_45 : decode cX8_best 45 = .ok (.iload_n 3, 1) := by decide +kernel
theorem dX8_best_46 : decode cX8_best 46 = .ok (.iconst (-1), 1) := by decide +kernel
theorem dX8_best_47 : decode cX8_best 47 = .ok (.if_icmp .eq 17, 3) := by decide +kernel
theorem dX8_best_50 : decode cX8_best 50 = .ok (.aload_n 0, 1) := by decide +kernel
theorem dX8_best_51 : decode cX8_best 51 = .ok (.iload 4, 2) := by decide +kernel
theorem dX8_best_53 : decode cX8_best 53 = .ok (.invokevirtual 124, 3) := by decide +kernel
theorem dX8_best_56 : decode cX8_best 56 = .ok (.aload_n 0, 1) := by decide +kernel
theorem dX8_best_57 : decode cX8_best 57 = .ok (.iload_n 3, 1) := by decide +kernel
theorem dX8_best_58 : decode cX8_best 58 = .ok (.invokevirtual 124, 3) := by decide +kernel
theorem dX8_best_61 : decode cX8_best 61 = .ok (.if_icmp .le 9, 3) := by decide +kernel
theorem dX8_best_64 : decode cX8_best 64 = .ok (.iload 4, 2) := by decide +kernel
theorem dX8_best_66 : decode cX8_best 66 = .ok (.istore_n 3, 1) := by decide +kernel
theorem dX8_best_67 : decode cX8_best 67 = .ok (.goto 40, 3) := by decide +kernel
theorem dX8_best_70 : decode cX8_best 70 = .ok (.iload 4, 2) := by decide +kernel
theorem dX8_best_72 : decode cX8_best 72 = .ok (.iload_n 3, 1) := by decide +kernel
theorem dX8_best_73 : decode cX8_best 73 = .ok (.ixor, 1) := by decide +kernel
theorem dX8_best_74 : decode cX8_best 74 = .ok (.iload 4, 2) := by decide +kernel
theorem dX8_best_76 : decode cX8_best 76 = .ok (.iload_n 3, 1) := by decide +kernel
theorem dX8_best_77 : decode cX8_best 77 = .ok (.ixor, 1) := by decide +kernel
theorem dX8_best_78 : decode cX8_best 78 = .ok (.ineg, 1) := by decide +kernel
theorem dX8_best_79 : decode cX8_best 79 = .ok (.iand, 1) := by decide +kernel
theorem dX8_best_80 : decode cX8_best 80 = .ok (.istore 5, 2) := by decide +kernel
theorem dX8_best_82 : decode cX8_best 82 = .ok (.aload_n 0, 1) := by decide +kernel
theorem dX8_best_83 : decode cX8_best 83 = .ok (.iload 4, 2) := by decide +kernel
theorem dX8_best_85 : decode cX8_best 85 = .ok (.invokevirtual 124, 3) := by decide +kernel
theorem dX8_best_88 : decode cX8_best 88 = .ok (.aload_n 0, 1) := by decide +kernel
theorem dX8_best_89 : decode cX8_best 89 = .ok (.iload_n 3, 1) := by decide +kernel
theorem dX8_best_90 : decode cX8_best 90 = .ok (.invokevirtual 124, 3) := by decide +kernel
theorem dX8_best_93 : decode cX8_best 93 = .ok (.if_icmp .ne 14, 3) := by decide +kernel
theorem dX8_best_96 : decode cX8_best 96 = .ok (.iload 4, 2) := by decide +kernel
theorem dX8_best_98 : decode cX8_best 98 = .ok (.iload 5, 2) := by decide +kernel
theorem dX8_best_100 : decode cX8_best 100 = .ok (.iand, 1) := by decide +kernel
theorem dX8_best_101 : decode cX8_best 101 = .ok (.ifCond .eq 6, 3) := by decide +kernel
theorem dX8_best_104 : decode cX8_best 104 = .ok (.iload 4, 2) := by decide +kernel
theorem dX8_best_106 : decode cX8_best 106 = .ok (.istore_n 3, 1) := by decide +kernel
theorem dX8_best_107 : decode cX8_best 107 = .ok (.iinc 4 1, 3) := by decide +kernel
theorem dX8_best_110 : decode cX8_best 110 = .ok (.goto (-105), 3) := by decide +kernel
theorem dX8_best_113 : decode cX8_best 113 = .ok (.iload_n 3, 1) := by decide +kernel
theorem dX8_best_114 : decode cX8_best 114 = .ok (.ireturn, 1) := by decide +kernel
theorem dX8_fits_0 : decode cX8_fits 0 = .ok (.aload_n 0, 1) := by decide +kernel
theorem dX8_fits_1 : decode cX8_fits 1 = .ok (.iconst 0, 1) := by decide +kernel
theorem dX8_fits_2 : decode cX8_fits 2 = .ok (.putfield 71, 3) := by decide +kernel
theorem dX8_fits_5 : decode cX8_fits 5 = .ok (.aload_n 0, 1) := by decide +kernel
theorem dX8_fits_6 : decode cX8_fits 6 = .ok (.iload_n 1, 1) := by decide +kernel
theorem dX8_fits_7 : decode cX8_fits 7 = .ok (.invokevirtual 103, 3) := by decide +kernel
theorem dX8_fits_10 : decode cX8_fits 10 = .ok (.ifCond .eq 31, 3) := by decide +kernel
theorem dX8_fits_13 : decode cX8_fits 13 = .ok (.iload_n 1, 1) := by decide +kernel
theorem dX8_fits_14 : decode cX8_fits 14 = .ok (.aload_n 0, 1) := by decide +kernel
theorem dX8_fits_15 : decode cX8_fits 15 = .ok (.invokevirtual 110, 3) := by decide +kernel
theorem dX8_fits_18 : decode cX8_fits 18 = .ok (.iconst (-1), 1) := by decide +kernel
theorem dX8_fits_19 : decode cX8_fits 19 = .ok (.ixor, 1) := by decide +kernel
theorem dX8_fits_20 : decode cX8_fits 20 = .ok (.iand, 1) := by decide +kernel
theorem dX8_fits_21 : decode cX8_fits 21 = .ok (.ifCond .ne 20, 3) := by decide +kernel
theorem dX8_fits_24 : decode cX8_fits 24 = .ok (.aload_n 0, 1) := by decide +kernel
theorem dX8_fits_25 : decode cX8_fits 25 = .ok (.iload_n 1, 1) := by decide +kernel
theorem dX8_fits_26 : decode cX8_fits 26 = .ok (.invokevirtual 114, 3) := by decide +kernel
theorem dX8_fits_29 : decode cX8_fits 29 = .ok (.iconst (-1), 1) := by decide +kernel
theorem dX8_fits_30 : decode cX8_fits 30 = .ok (.if_icmp .ne 7, 3) := by decide +kernel
theorem dX8_fits_33 : decode cX8_fits 33 = .ok (.iconst 1, 1) := by decide +kernel
theorem dX8_fits_34 : decode cX8_fits 34 = .ok (.goto 8, 3) := by decide +kernel
theorem dX8_fits_37 : decode cX8_fits 37 = .ok (.iconst 0, 1) := by decide +kernel
theorem dX8_fits_38 : decode cX8_fits 38 = .ok (.goto 4, 3) := by decide +kernel
theorem dX8_fits_41 : decode cX8_fits 41 = .ok (.iconst (-1), 1) := by decide +kernel
theorem dX8_fits_42 : decode cX8_fits 42 = .ok (.ireturn, 1) := by decide +kernel
theorem dX8_red_0 : decode cX8_red 0 = .ok (.aload_n 0, 1) := by decide +kernel
theorem dX8_red_1 : decode cX8_red 1 = .ok (.iconst 0, 1) := by decide +kernel
theorem dX8_red_2 : decode cX8_red 2 = .ok (.putfield 71, 3) := by decide +kernel
theorem dX8_red_5 : decode cX8_red 5 = .ok (.aload_n 0, 1) := by decide +kernel
theorem dX8_red_6 : decode cX8_red 6 = .ok (.iload_n 1, 1) := by decide +kernel
theorem dX8_red_7 : decode cX8_red 7 = .ok (.invokevirtual 103, 3) := by decide +kernel
theorem dX8_red_10 : decode cX8_red 10 = .ok (.ifCond .eq 11, 3) := by decide +kernel
theorem dX8_red_13 : decode cX8_red 13 = .ok (.aload_n 0, 1) := by decide +kernel
theorem dX8_red_14 : decode cX8_red 14 = .ok (.iload_n 1, 1) := by decide +kernel
theorem dX8_red_15 : decode cX8_red 15 = .ok (.invokevirtual 118, 3) := by decide +kernel
theorem dX8_red_18 : decode cX8_red 18 = .ok (.goto 4, 3) := by decide +kernel
theorem dX8_red_21 : decode cX8_red 21 = .ok (.iconst (-1), 1) := by decide +kernel
theorem dX8_red_22 : decode cX8_red 22 = .ok (.ireturn, 1) := by decide +kernel
theorem dX8_cut_0 : decode cX8_cut 0 = .ok (.aload_n 0, 1) := by decide +kernel
theorem dX8_cut_1 : decode cX8_cut 1 = .ok (.iconst 0, 1) := by decide +kernel
theorem dX8_cut_2 : decode cX8_cut 2 = .ok (.putfield 71, 3) := by decide +kernel
theorem dX8_cut_5 : decode cX8_cut 5 = .ok (.aload_n 0, 1) := by decide +kernel
theorem dX8_cut_6 : decode cX8_cut 6 = .ok (.getfield 78, 3) := by decide +kernel
theorem dX8_cut_9 : decode cX8_cut 9 = .ok (.ifCond .eq 5, 3) := by decide +kernel
theorem dX8_cut_12 : decode cX8_cut 12 = .ok (.iconst (-1), 1) := by decide +kernel
theorem dX8_cut_13 : decode cX8_cut 13 = .ok (.ireturn, 1) := by decide +kernel
theorem dX8_cut_14 : decode cX8_cut 14 = .ok (.aload_n 0, 1) := by decide +kernel
theorem dX8_cut_15 : decode cX8_cut 15 = .ok (.iconst 0, 1) := by decide +kernel
theorem dX8_cut_16 : decode cX8_cut 16 = .ok (.aload_n 0, 1) := by decide +kernel
theorem dX8_cut_17 : decode cX8_cut 17 = .ok (.invokevirtual 110, 3) := by decide +kernel
theorem dX8_cut_20 : decode cX8_cut 20 = .ok (.invokevirtual 127, 3) := by decide +kernel
theorem dX8_cut_23 : decode cX8_cut 23 = .ok (.istore_n 1, 1) := by decide +kernel
theorem dX8_cut_24 : decode cX8_cut 24 = .ok (.iload_n 1, 1) := by decide +kernel
theorem dX8_cut_25 : decode cX8_cut 25 = .ok (.iconst (-1), 1) := by decide +kernel
theorem dX8_cut_26 : decode cX8_cut 26 = .ok (.if_icmp .ne 5, 3) := by decide +kernel
theorem dX8_cut_29 : decode cX8_cut 29 = .ok (.iconst (-1), 1) := by decide +kernel
theorem dX8_cut_30 : decode cX8_cut 30 = .ok (.ireturn, 1) := by decide +kernel
theorem dX8_cut_31 : decode cX8_cut 31 = .ok (.aload_n 0, 1) := by decide +kernel
theorem dX8_cut_32 : decode cX8_cut 32 = .ok (.iload_n 1, 1) := by decide +kernel
theorem dX8_cut_33 : decode cX8_cut 33 = .ok (.putfield 90, 3) := by decide +kernel
theorem dX8_cut_36 : decode cX8_cut 36 = .ok (.aload_n 0, 1) := by decide +kernel
theorem dX8_cut_37 : decode cX8_cut 37 = .ok (.iconst 1, 1) := by decide +kernel
theorem dX8_cut_38 : decode cX8_cut 38 = .ok (.putfield 78, 3) := by decide +kernel
theorem dX8_cut_41 : decode cX8_cut 41 = .ok (.aload_n 0, 1) := by decide +kernel
theorem dX8_cut_42 : decode cX8_cut 42 = .ok (.getfield 90, 3) := by decide +kernel
theorem dX8_cut_45 : decode cX8_cut 45 = .ok (.ireturn, 1) := by decide +kernel
theorem dX8_chosen_0 : decode cX8_chosen 0 = .ok (.aload_n 0, 1) := by decide +kernel
theorem dX8_chosen_1 : decode cX8_chosen 1 = .ok (.iconst 0, 1) := by decide +kernel
theorem dX8_chosen_2 : decode cX8_chosen 2 = .ok (.putfield 71, 3) := by decide +kernel
theorem dX8_chosen_5 : decode cX8_chosen 5 = .ok (.aload_n 0, 1) := by decide +kernel
theorem dX8_chosen_6 : decode cX8_chosen 6 = .ok (.getfield 78, 3) := by decide +kernel
theorem dX8_chosen_9 : decode cX8_chosen 9 = .ok (.ifCond .eq 10, 3) := by decide +kernel
theorem dX8_chosen_12 : decode cX8_chosen 12 = .ok (.aload_n 0, 1) := by decide +kernel
theorem dX8_chosen_13 : decode cX8_chosen 13 = .ok (.getfield 90, 3) := by decide +kernel
theorem dX8_chosen_16 : decode cX8_chosen 16 = .ok (.goto 4, 3) := by decide +kernel
theorem dX8_chosen_19 : decode cX8_chosen 19 = .ok (.iconst (-1), 1) := by decide +kernel
theorem dX8_chosen_20 : decode cX8_chosen 20 = .ok (.ireturn, 1) := by decide +kernel
end
section
theorem dX8_worth_0 : decode cX8_worth 0 = .ok (.aload_n 0, 1) := by decide +kernel
theorem dX8_worth_1 : decode cX8_worth 1 = .ok (.iconst 0, 1) := by decide +kernel
theorem dX8_worth_2 : decode cX8_worth 2 = .ok (.putfield 71, 3) := by decide +kernel
theorem dX8_worth_5 : decode cX8_worth 5 = .ok (.aload_n 0, 1) := by decide +kernel
theorem dX8_worth_6 : decode cX8_worth 6 = .ok (.getfield 78, 3) := by decide +kernel
theorem dX8_worth_9 : decode cX8_worth 9 = .ok (.ifCond .eq 14, 3) := by decide +kernel
theorem dX8_worth_12 : decode cX8_worth 12 = .ok (.aload_n 0, 1) := by decide +kernel
theorem dX8_worth_13 : decode cX8_worth 13 = .ok (.aload_n 0, 1) := by decide +kernel
theorem dX8_worth_14 : decode cX8_worth 14 = .ok (.getfield 90, 3) := by decide +kernel
theorem dX8_worth_17 : decode cX8_worth 17 = .ok (.invokevirtual 124, 3) := by decide +kernel
theorem dX8_worth_20 : decode cX8_worth 20 = .ok (.goto 4, 3) := by decide +kernel
theorem dX8_worth_23 : decode cX8_worth 23 = .ok (.iconst (-1), 1) := by decide +kernel
theorem dX8_worth_24 : decode cX8_worth 24 = .ok (.ireturn, 1) := by decide +kernel
theorem dX8_why_0 : decode cX8_why 0 = .ok (.aload_n 0, 1) := by decide +kernel
theorem dX8_why_1 : decode cX8_why 1 = .ok (.iconst 0, 1) := by decide +kernel
theorem dX8_why_2 : decode cX8_why 2 = .ok (.putfield 71, 3) := by decide +kernel
theorem dX8_why_5 : decode cX8_why 5 = .ok (.aload_n 0, 1) := by decide +kernel
theorem dX8_why_6 : decode cX8_why 6 = .ok (.getfield 78, 3) := by decide +kernel
theorem dX8_why_9 : decode cX8_why 9 = .ok (.ifCond .eq 32, 3) := by decide +kernel
theorem dX8_why_12 : decode cX8_why 12 = .ok (.aload_n 0, 1) := by decide +kernel
theorem dX8_why_13 : decode cX8_why 13 = .ok (.iload_n 1, 1) := by decide +kernel
theorem dX8_why_14 : decode cX8_why 14 = .ok (.invokevirtual 86, 3) := by decide +kernel
theorem dX8_why_17 : decode cX8_why 17 = .ok (.ifCond .eq 24, 3) := by decide +kernel
theorem dX8_why_20 : decode cX8_why 20 = .ok (.aload_n 0, 1) := by decide +kernel
theorem dX8_why_21 : decode cX8_why 21 = .ok (.getfield 13, 3) := by decide +kernel
theorem dX8_why_24 : decode cX8_why 24 = .ok (.iload_n 1, 1) := by decide +kernel
theorem dX8_why_25 : decode cX8_why 25 = .ok (.iaload, 1) := by decide +kernel
theorem dX8_why_26 : decode cX8_why 26 = .ok (.iconst (-1), 1) := by decide +kernel
theorem dX8_why_27 : decode cX8_why 27 = .ok (.if_icmp .eq 14, 3) := by decide +kernel
theorem dX8_why_30 : decode cX8_why 30 = .ok (.aload_n 0, 1) := by decide +kernel
theorem dX8_why_31 : decode cX8_why 31 = .ok (.getfield 90, 3) := by decide +kernel
theorem dX8_why_34 : decode cX8_why 34 = .ok (.iload_n 1, 1) := by decide +kernel
theorem dX8_why_35 : decode cX8_why 35 = .ok (.invokestatic 93, 3) := by decide +kernel
theorem dX8_why_38 : decode cX8_why 38 = .ok (.ifCond .eq 5, 3) := by decide +kernel
theorem dX8_why_41 : decode cX8_why 41 = .ok (.iconst (-1), 1) := by decide +kernel
theorem dX8_why_42 : decode cX8_why 42 = .ok (.ireturn, 1) := by decide +kernel
theorem dX8_why_43 : decode cX8_why 43 = .ok (.aload_n 0, 1) := by decide +kernel
theorem dX8_why_44 : decode cX8_why 44 = .ok (.getfield 90, 3) := by decide +kernel
theorem dX8_why_47 : decode cX8_why 47 = .ok (.iconst 1, 1) := by decide +kernel
theorem dX8_why_48 : decode cX8_why 48 = .ok (.iload_n 1, 1) := by decide +kernel
theorem dX8_why_49 : decode cX8_why 49 = .ok (.ishl, 1) := by decide +kernel
theorem dX8_why_50 : decode cX8_why 50 = .ok (.ior, 1) := by decide +kernel
theorem dX8_why_51 : decode cX8_why 51 = .ok (.istore_n 2, 1) := by decide +kernel
theorem dX8_why_52 : decode cX8_why 52 = .ok (.aload_n 0, 1) := by decide +kernel
theorem dX8_why_53 : decode cX8_why 53 = .ok (.iload_n 2, 1) := by decide +kernel
theorem dX8_why_54 : decode cX8_why 54 = .ok (.invokevirtual 114, 3) := by decide +kernel
theorem dX8_why_57 : decode cX8_why 57 = .ok (.iconst (-1), 1) := by decide +kernel
theorem dX8_why_58 : decode cX8_why 58 = .ok (.if_icmp .eq 12, 3) := by decide +kernel
theorem dX8_why_61 : decode cX8_why 61 = .ok (.bipush 100, 2) := by decide +kernel
theorem dX8_why_63 : decode cX8_why 63 = .ok (.aload_n 0, 1) := by decide +kernel
theorem dX8_why_64 : decode cX8_why 64 = .ok (.iload_n 2, 1) := by decide +kernel
theorem dX8_why_65 : decode cX8_why 65 = .ok (.invokevirtual 114, 3) := by decide +kernel
theorem dX8_why_68 : decode cX8_why 68 = .ok (.iadd, 1) := by decide +kernel
theorem dX8_why_69 : decode cX8_why 69 = .ok (.ireturn, 1) := by decide +kernel
theorem dX8_why_70 : decode cX8_why 70 = .ok (.aload_n 0, 1) := by decide +kernel
theorem dX8_why_71 : decode cX8_why 71 = .ok (.iload_n 2, 1) := by decide +kernel
theorem dX8_why_72 : decode cX8_why 72 = .ok (.invokevirtual 118, 3) := by decide +kernel
theorem dX8_why_75 : decode cX8_why 75 = .ok (.iconst (-1), 1) := by decide +kernel
theorem dX8_why_76 : decode cX8_why 76 = .ok (.if_icmp .eq 15, 3) := by decide +kernel
theorem dX8_why_79 : decode cX8_why 79 = .ok (.sipush 200, 3) := by decide +kernel
theorem dX8_why_82 : decode cX8_why 82 = .ok (.aload_n 0, 1) := by decide +kernel
theorem dX8_why_83 : decode cX8_why 83 = .ok (.iload_n 2, 1) := by decide +kernel
theorem dX8_why_84 : decode cX8_why 84 = .ok (.invokevirtual 118, 3) := by decide +kernel
theorem dX8_why_87 : decode cX8_why 87 = .ok (.iadd, 1) := by decide +kernel
theorem dX8_why_88 : decode cX8_why 88 = .ok (.goto 4, 3) := by decide +kernel
theorem dX8_why_91 : decode cX8_why 91 = .ok (.iconst 0, 1) := by decide +kernel
theorem dX8_why_92 : decode cX8_why 92 = .ok (.ireturn, 1) := by decide +kernel
theorem dX8_tries_0 : decode cX8_tries 0 = .ok (.aload_n 0, 1) := by decide +kernel
theorem dX8_tries_1 : decode cX8_tries 1 = .ok (.iconst 0, 1) := by decide +kernel
theorem dX8_tries_2 : decode cX8_tries 2 = .ok (.putfield 71, 3) := by decide +kernel
theorem dX8_tries_5 : decode cX8_tries 5 = .ok (.aload_n 0, 1) := by decide +kernel
theorem dX8_tries_6 : decode cX8_tries 6 = .ok (.getfield 78, 3) := by decide +kernel
theorem dX8_tries_9 : decode cX8_tries 9 = .ok (.ifCond .eq 54, 3) := by decide +kernel
theorem dX8_tries_12 : decode cX8_tries 12 = .ok (.aload_n 0, 1) := by decide +kernel
theorem dX8_tries_13 : decode cX8_tries 13 = .ok (.iload_n 1, 1) := by decide +kernel
theorem dX8_tries_14 : decode cX8_tries 14 = .ok (.invokevirtual 86, 3) := by decide +kernel
theorem dX8_tries_17 : decode cX8_tries 17 = .ok (.ifCond .eq 46, 3) := by decide +kernel
theorem dX8_tries_20 : decode cX8_tries 20 = .ok (.iload_n 2, 1) := by decide +kernel
theorem dX8_tries_21 : decode cX8_tries 21 = .ok (.iconst 0, 1) := by decide +kernel
theorem dX8_tries_22 : decode cX8_tries 22 = .ok (.sipush 1000, 3) := by decide +kernel
theorem dX8_tries_25 : decode cX8_tries 25 = .ok (.invokestatic 82, 3) := by decide +kernel
theorem dX8_tries_28 : decode cX8_tries 28 = .ok (.ifCond .eq 35, 3) := by decide +kernel
theorem dX8_tries_31 : decode cX8_tries 31 = .ok (.iload_n 3, 1) := by decide +kernel
theorem dX8_tries_32 : decode cX8_tries 32 = .ok (.iconst 1, 1) := by decide +kernel
theorem dX8_tries_33 : decode cX8_tries 33 = .ok (.sipush 1000, 3) := by decide +kernel
theorem dX8_tries_36 : decode cX8_tries 36 = .ok (.invokestatic 82, 3) := by decide +kernel
theorem dX8_tries_39 : decode cX8_tries 39 = .ok (.ifCond .eq 24, 3) := by decide +kernel
theorem dX8_tries_42 : decode cX8_tries 42 = .ok (.aload_n 0, 1) := by decide +kernel
theorem dX8_tries_43 : decode cX8_tries 43 = .ok (.getfield 90, 3) := by decide +kernel
theorem dX8_tries_46 : decode cX8_tries 46 = .ok (.iload_n 1, 1) := by decide +kernel
theorem dX8_tries_47 : decode cX8_tries 47 = .ok (.invokestatic 93, 3) := by decide +kernel
theorem dX8_tries_50 : decode cX8_tries 50 = .ok (.ifCond .ne 13, 3) := by decide +kernel
theorem dX8_tries_53 : decode cX8_tries 53 = .ok (.iload_n 2, 1) := by decide +kernel
theorem dX8_tries_54 : decode cX8_tries 54 = .ok (.aload_n 0, 1) := by decide +kernel
theorem dX8_tries_55 : decode cX8_tries 55 = .ok (.getfield 9, 3) := by decide +kernel
theorem dX8_tries_58 : decode cX8_tries 58 = .ok (.iload_n 1, 1) := by decide +kernel
theorem dX8_tries_59 : decode cX8_tries 59 = .ok (.iaload, 1) := by decide +kernel
theorem dX8_tries_60 : decode cX8_tries 60 = .ok (.if_icmp .ne 5, 3) := by decide +kernel
theorem dX8_tries_63 : decode cX8_tries 63 = .ok (.iconst 0, 1) := by decide +kernel
theorem dX8_tries_64 : decode cX8_tries 64 = .ok (.ireturn, 1) := by decide +kernel
theorem dX8_tries_65 : decode cX8_tries 65 = .ok (.aload_n 0, 1) := by decide +kernel
theorem dX8_tries_66 : decode cX8_tries 66 = .ok (.aload_n 0, 1) := by decide +kernel
theorem dX8_tries_67 : decode cX8_tries 67 = .ok (.getfield 13, 3) := by decide +kernel
theorem dX8_tries_70 : decode cX8_tries 70 = .ok (.iload_n 1, 1) := by decide +kernel
theorem dX8_tries_71 : decode cX8_tries 71 = .ok (.iaload, 1) := by decide +kernel
theorem dX8_tries_72 : decode cX8_tries 72 = .ok (.putfield 130, 3) := by decide +kernel
theorem dX8_tries_75 : decode cX8_tries 75 = .ok (.aload_n 0, 1) := by decide +kernel
theorem dX8_tries_76 : decode cX8_tries 76 = .ok (.aload_n 0, 1) := by decide +kernel
theorem dX8_tries_77 : decode cX8_tries 77 = .ok (.getfield 16, 3) := by decide +kernel
theorem dX8_tries_80 : decode cX8_tries 80 = .ok (.iload_n 1, 1) := by decide +kernel
theorem dX8_tries_81 : decode cX8_tries 81 = .ok (.iaload, 1) := by decide +kernel
theorem dX8_tries_82 : decode cX8_tries 82 = .ok (.putfield 133, 3) := by decide +kernel
theorem dX8_tries_85 : decode cX8_tries 85 = .ok (.aload_n 0, 1) := by decide +kernel
theorem dX8_tries_86 : decode cX8_tries 86 = .ok (.getfield 13, 3) := by decide +kernel
theorem dX8_tries_89 : decode cX8_tries 89 = .ok (.iload_n 1, 1) := by decide +kernel
theorem dX8_tries_90 : decode cX8_tries 90 = .ok (.iload_n 2, 1) := by decide +kernel
theorem dX8_tries_91 : decode cX8_tries 91 = .ok (.iastore, 1) := by decide +kernel
theorem dX8_tries_92 : decode cX8_tries 92 = .ok (.aload_n 0, 1) := by decide +kernel
theorem dX8_tries_93 : decode cX8_tries 93 = .ok (.getfield 16, 3) := by decide +kernel
theorem dX8_tries_96 : decode cX8_tries 96 = .ok (.iload_n 1, 1) := by decide +kernel
theorem dX8_tries_97 : decode cX8_tries 97 = .ok (.iload_n 3, 1) := by decide +kernel
theorem dX8_tries_98 : decode cX8_tries 98 = .ok (.iastore, 1) := by decide +kernel
theorem dX8_tries_99 : decode cX8_tries 99 = .ok (.iconst 1, 1) := by decide +kernel
theorem dX8_tries_100 : decode cX8_tries 100 = .ok (.ireturn, 1) := by decide +kernel
theorem dX8_fix_0 : decode cX8_fix 0 = .ok (.aload_n 0, 1) := by decide +kernel
theorem dX8_fix_1 : decode cX8_fix 1 = .ok (.iload_n 1, 1) := by decide +kernel
theorem dX8_fix_2 : decode cX8_fix 2 = .ok (.iload_n 2, 1) := by decide +kernel
theorem dX8_fix_3 : decode cX8_fix 3 = .ok (.iload_n 3, 1) := by decide +kernel
theorem dX8_fix_4 : decode cX8_fix 4 = .ok (.invokevirtual 136, 3) := by decide +kernel
theorem dX8_fix_7 : decode cX8_fix 7 = .ok (.ifCond .ne 5, 3) := by decide +kernel
theorem dX8_fix_10 : decode cX8_fix 10 = .ok (.iconst (-1), 1) := by decide +kernel
theorem dX8_fix_11 : decode cX8_fix 11 = .ok (.ireturn, 1) := by decide +kernel
theorem dX8_fix_12 : decode cX8_fix 12 = .ok (.aload_n 0, 1) := by decide +kernel
theorem dX8_fix_13 : decode cX8_fix 13 = .ok (.aload_n 0, 1) := by decide +kernel
theorem dX8_fix_14 : decode cX8_fix 14 = .ok (.getfield 90, 3) := by decide +kernel
theorem dX8_fix_17 : decode cX8_fix 17 = .ok (.iconst 1, 1) := by decide +kernel
theorem dX8_fix_18 : decode cX8_fix 18 = .ok (.iload_n 1, 1) := by decide +kernel
theorem dX8_fix_19 : decode cX8_fix 19 = .ok (.ishl, 1) := by decide +kernel
theorem dX8_fix_20 : decode cX8_fix 20 = .ok (.ior, 1) := by decide +kernel
theorem dX8_fix_21 : decode cX8_fix 21 = .ok (.invokevirtual 121, 3) := by decide +kernel
theorem dX8_fix_24 : decode cX8_fix 24 = .ok (.ifCond .eq 17, 3) := by decide +kernel
theorem dX8_fix_27 : decode cX8_fix 27 = .ok (.aload_n 0, 1) := by decide +kernel
theorem dX8_fix_28 : decode cX8_fix 28 = .ok (.dup, 1) := by decide +kernel
theorem dX8_fix_29 : decode cX8_fix 29 = .ok (.getfield 90, 3) := by decide +kernel
theorem dX8_fix_32 : decode cX8_fix 32 = .ok (.iconst 1, 1) := by decide +kernel
theorem dX8_fix_33 : decode cX8_fix 33 = .ok (.iload_n 1, 1) := by decide +kernel
theorem dX8_fix_34 : decode cX8_fix 34 = .ok (.ishl, 1) := by decide +kernel
theorem dX8_fix_35 : decode cX8_fix 35 = .ok (.ior, 1) := by decide +kernel
theorem dX8_fix_36 : decode cX8_fix 36 = .ok (.putfield 90, 3) := by decide +kernel
theorem dX8_fix_39 : decode cX8_fix 39 = .ok (.iconst 1, 1) := by decide +kernel
theorem dX8_fix_40 : decode cX8_fix 40 = .ok (.ireturn, 1) := by decide +kernel
theorem dX8_fix_41 : decode cX8_fix 41 = .ok (.aload_n 0, 1) := by decide +kernel
theorem dX8_fix_42 : decode cX8_fix 42 = .ok (.getfield 13, 3) := by decide +kernel
theorem dX8_fix_45 : decode cX8_fix 45 = .ok (.iload_n 1, 1) := by decide +kernel
theorem dX8_fix_46 : decode cX8_fix 46 = .ok (.aload_n 0, 1) := by decide +kernel
theorem dX8_fix_47 : decode cX8_fix 47 = .ok (.getfield 130, 3) := by decide +kernel
theorem dX8_fix_50 : decode cX8_fix 50 = .ok (.iastore, 1) := by decide +kernel
theorem dX8_fix_51 : decode cX8_fix 51 = .ok (.aload_n 0, 1) := by decide +kernel
theorem dX8_fix_52 : decode cX8_fix 52 = .ok (.getfield 16, 3) := by decide +kernel
theorem dX8_fix_55 : decode cX8_fix 55 = .ok (.iload_n 1, 1) := by decide +kernel
theorem dX8_fix_56 : decode cX8_fix 56 = .ok (.aload_n 0, 1) := by decide +kernel
theorem dX8_fix_57 : decode cX8_fix 57 = .ok (.getfield 133, 3) := by decide +kernel
theorem dX8_fix_60 : decode cX8_fix 60 = .ok (.iastore, 1) := by decide +kernel
theorem dX8_fix_61 : decode cX8_fix 61 = .ok (.iconst 0, 1) := by decide +kernel
theorem dX8_fix_62 : decode cX8_fix 62 = .ok (.ireturn, 1) := by decide +kernel
theorem dX8_leave_0 : decode cX8_leave 0 = .ok (.aload_n 0, 1) := by decide +kernel
theorem dX8_leave_1 : decode cX8_leave 1 = .ok (.iload_n 1, 1) := by decide +kernel
theorem dX8_leave_2 : decode cX8_leave 2 = .ok (.iload_n 2, 1) := by decide +kernel
theorem dX8_leave_3 : decode cX8_leave 3 = .ok (.iload_n 3, 1) := by decide +kernel
theorem dX8_leave_4 : decode cX8_leave 4 = .ok (.invokevirtual 136, 3) := by decide +kernel
theorem dX8_leave_7 : decode cX8_leave 7 = .ok (.ifCond .ne 5, 3) := by decide +kernel
theorem dX8_leave_10 : decode cX8_leave 10 = .ok (.iconst (-1), 1) := by decide +kernel
theorem dX8_leave_11 : decode cX8_leave 11 = .ok (.ireturn, 1) := by decide +kernel
theorem dX8_leave_12 : decode cX8_leave 12 = .ok (.aload_n 0, 1) := by decide +kernel
theorem dX8_leave_13 : decode cX8_leave 13 = .ok (.iconst 1, 1) := by decide +kernel
theorem dX8_leave_14 : decode cX8_leave 14 = .ok (.iload_n 1, 1) := by decide +kernel
theorem dX8_leave_15 : decode cX8_leave 15 = .ok (.ishl, 1) := by decide +kernel
theorem dX8_leave_16 : decode cX8_leave 16 = .ok (.aload_n 0, 1) := by decide +kernel
theorem dX8_leave_17 : decode cX8_leave 17 = .ok (.getfield 90, 3) := by decide +kernel
theorem dX8_leave_20 : decode cX8_leave 20 = .ok (.iconst 1, 1) := by decide +kernel
theorem dX8_leave_21 : decode cX8_leave 21 = .ok (.iload_n 1, 1) := by decide +kernel
theorem dX8_leave_22 : decode cX8_leave 22 = .ok (.ishl, 1) := by decide +kernel
theorem dX8_leave_23 : decode cX8_leave 23 = .ok (.ior, 1) := by decide +kernel
theorem dX8_leave_24 : decode cX8_leave 24 = .ok (.invokevirtual 127, 3) := by decide +kernel
theorem dX8_leave_27 : decode cX8_leave 27 = .ok (.istore 4, 2) := by decide +kernel
theorem dX8_leave_29 : decode cX8_leave 29 = .ok (.aload_n 0, 1) := by decide +kernel
theorem dX8_leave_30 : decode cX8_leave 30 = .ok (.getfield 13, 3) := by decide +kernel
theorem dX8_leave_33 : decode cX8_leave 33 = .ok (.iload_n 1, 1) := by decide +kernel
theorem dX8_leave_34 : decode cX8_leave 34 = .ok (.aload_n 0, 1) := by decide +kernel
theorem dX8_leave_35 : decode cX8_leave 35 = .ok (.getfield 130, 3) := by decide +kernel
theorem dX8_leave_38 : decode cX8_leave 38 = .ok (.iastore, 1) := by decide +kernel
theorem dX8_leave_39 : decode cX8_leave 39 = .ok (.aload_n 0, 1) := by decide +kernel
theorem dX8_leave_40 : decode cX8_leave 40 = .ok (.getfield 16, 3) := by decide +kernel
theorem dX8_leave_43 : decode cX8_leave 43 = .ok (.iload_n 1, 1) := by decide +kernel
theorem dX8_leave_44 : decode cX8_leave 44 = .ok (.aload_n 0, 1) := by decide +kernel
theorem dX8_leave_45 : decode cX8_leave 45 = .ok (.getfield 133, 3) := by decide +kernel
theorem dX8_leave_48 : decode cX8_leave 48 = .ok (.iastore, 1) := by decide +kernel
theorem dX8_leave_49 : decode cX8_leave 49 = .ok (.iload 4, 2) := by decide +kernel
theorem dX8_leave_51 : decode cX8_leave 51 = .ok (.iconst (-1), 1) := by decide +kernel
theorem dX8_leave_52 : decode cX8_leave 52 = .ok (.if_icmp .ne 7, 3) := by decide +kernel
theorem dX8_leave_55 : decode cX8_leave 55 = .ok (.iconst (-1), 1) := by decide +kernel
theorem dX8_leave_56 : decode cX8_leave 56 = .ok (.goto 12, 3) := by decide +kernel
theorem dX8_leave_59 : decode cX8_leave 59 = .ok (.aload_n 0, 1) := by decide +kernel
theorem dX8_leave_60 : decode cX8_leave 60 = .ok (.getfield 90, 3) := by decide +kernel
theorem dX8_leave_63 : decode cX8_leave 63 = .ok (.iload 4, 2) := by decide +kernel
theorem dX8_leave_65 : decode cX8_leave 65 = .ok (.iconst (-1), 1) := by decide +kernel
theorem dX8_leave_66 : decode cX8_leave 66 = .ok (.ixor, 1) := by decide +kernel
theorem dX8_leave_67 : decode cX8_leave 67 = .ok (.iand, 1) := by decide +kernel
theorem dX8_leave_68 : decode cX8_leave 68 = .ok (.ireturn, 1) := by decide +kernel
theorem dX8_goesOut_0 : decode cX8_goesOut 0 = .ok (.iload_n 1, 1) := by decide +kernel
theorem dX8_goesOut_1 : decode cX8_goesOut 1 = .ok (.aload_n 0, 1) := by decide +kernel
theorem dX8_goesOut_2 : decode cX8_goesOut 2 = .ok (.getfield 90, 3) := by decide +kernel
theorem dX8_goesOut_5 : decode cX8_goesOut 5 = .ok (.if_icmp .ne 10, 3) := by decide +kernel
theorem dX8_goesOut_8 : decode cX8_goesOut 8 = .ok (.aload_n 0, 1) := by decide +kernel
theorem dX8_goesOut_9 : decode cX8_goesOut 9 = .ok (.iload_n 2, 1) := by decide +kernel
theorem dX8_goesOut_10 : decode cX8_goesOut 10 = .ok (.putfield 139, 3) := by decide +kernel
theorem dX8_goesOut_13 : decode cX8_goesOut 13 = .ok (.iconst 1, 1) := by decide +kernel
theorem dX8_goesOut_14 : decode cX8_goesOut 14 = .ok (.ireturn, 1) := by decide +kernel
theorem dX8_goesOut_15 : decode cX8_goesOut 15 = .ok (.aload_n 0, 1) := by decide +kernel
theorem dX8_goesOut_16 : decode cX8_goesOut 16 = .ok (.getfield 65, 3) := by decide +kernel
theorem dX8_goesOut_19 : decode cX8_goesOut 19 = .ok (.iload_n 1, 1) := by decide +kernel
theorem dX8_goesOut_20 : decode cX8_goesOut 20 = .ok (.baload, 1) := by decide +kernel
theorem dX8_goesOut_21 : decode cX8_goesOut 21 = .ok (.ifCond .eq 5, 3) := by decide +kernel
theorem dX8_goesOut_24 : decode cX8_goesOut 24 = .ok (.iconst 0, 1) := by decide +kernel
theorem dX8_goesOut_25 : decode cX8_goesOut 25 = .ok (.ireturn, 1) := by decide +kernel
theorem dX8_goesOut_26 : decode cX8_goesOut 26 = .ok (.aload_n 0, 1) := by decide +kernel
theorem dX8_goesOut_27 : decode cX8_goesOut 27 = .ok (.getfield 65, 3) := by decide +kernel
theorem dX8_goesOut_30 : decode cX8_goesOut 30 = .ok (.iload_n 1, 1) := by decide +kernel
theorem dX8_goesOut_31 : decode cX8_goesOut 31 = .ok (.iconst 1, 1) := by decide +kernel
theorem dX8_goesOut_32 : decode cX8_goesOut 32 = .ok (.bastore, 1) := by decide +kernel
theorem dX8_goesOut_33 : decode cX8_goesOut 33 = .ok (.iconst 0, 1) := by decide +kernel
theorem dX8_goesOut_34 : decode cX8_goesOut 34 = .ok (.istore_n 3, 1) := by decide +kernel
theorem dX8_goesOut_35 : decode cX8_goesOut 35 = .ok (.iload_n 3, 1) := by decide +kernel
theorem dX8_goesOut_36 : decode cX8_goesOut 36 = .ok (.aload_n 0, 1) := by decide +kernel
theorem dX8_goesOut_37 : decode cX8_goesOut 37 = .ok (.getfield 75, 3) := by decide +kernel
theorem dX8_goesOut_40 : decode cX8_goesOut 40 = .ok (.if_icmp .ge 68, 3) := by decide +kernel
theorem dX8_goesOut_43 : decode cX8_goesOut 43 = .ok (.aload_n 0, 1) := by decide +kernel
theorem dX8_goesOut_44 : decode cX8_goesOut 44 = .ok (.getfield 90, 3) := by decide +kernel
theorem dX8_goesOut_47 : decode cX8_goesOut 47 = .ok (.iload_n 3, 1) := by decide +kernel
theorem dX8_goesOut_48 : decode cX8_goesOut 48 = .ok (.invokestatic 93, 3) := by decide +kernel
theorem dX8_goesOut_51 : decode cX8_goesOut 51 = .ok (.ifCond .eq 51, 3) := by decide +kernel
theorem dX8_goesOut_54 : decode cX8_goesOut 54 = .ok (.iload_n 1, 1) := by decide +kernel
theorem dX8_goesOut_55 : decode cX8_goesOut 55 = .ok (.iload_n 3, 1) := by decide +kernel
theorem dX8_goesOut_56 : decode cX8_goesOut 56 = .ok (.invokestatic 93, 3) := by decide +kernel
theorem dX8_goesOut_59 : decode cX8_goesOut 59 = .ok (.ifCond .ne 43, 3) := by decide +kernel
theorem dX8_goesOut_62 : decode cX8_goesOut 62 = .ok (.aload_n 0, 1) := by decide +kernel
theorem dX8_goesOut_63 : decode cX8_goesOut 63 = .ok (.iload_n 1, 1) := by decide +kernel
theorem dX8_goesOut_64 : decode cX8_goesOut 64 = .ok (.iconst 1, 1) := by decide +kernel
theorem dX8_goesOut_65 : decode cX8_goesOut 65 = .ok (.iload_n 3, 1) := by decide +kernel
theorem dX8_goesOut_66 : decode cX8_goesOut 66 = .ok (.ishl, 1) := by decide +kernel
theorem dX8_goesOut_67 : decode cX8_goesOut 67 = .ok (.ior, 1) := by decide +kernel
theorem dX8_goesOut_68 : decode cX8_goesOut 68 = .ok (.invokevirtual 114, 3) := by decide +kernel
theorem dX8_goesOut_71 : decode cX8_goesOut 71 = .ok (.iconst (-1), 1) := by decide +kernel
theorem dX8_goesOut_72 : decode cX8_goesOut 72 = .ok (.if_icmp .eq 6, 3) := by decide +kernel
theorem dX8_goesOut_75 : decode cX8_goesOut 75 = .ok (.goto 27, 3) := by decide +kernel
theorem dX8_goesOut_78 : decode cX8_goesOut 78 = .ok (.aload_n 0, 1) := by decide +kernel
theorem dX8_goesOut_79 : decode cX8_goesOut 79 = .ok (.getfield 68, 3) := by decide +kernel
theorem dX8_goesOut_82 : decode cX8_goesOut 82 = .ok (.iload_n 2, 1) := by decide +kernel
theorem dX8_goesOut_83 : decode cX8_goesOut 83 = .ok (.iload_n 3, 1) := by decide +kernel
theorem dX8_goesOut_84 : decode cX8_goesOut 84 = .ok (.iastore, 1) := by decide +kernel
theorem dX8_goesOut_85 : decode cX8_goesOut 85 = .ok (.aload_n 0, 1) := by decide +kernel
theorem dX8_goesOut_86 : decode cX8_goesOut 86 = .ok (.iload_n 1, 1) := by decide +kernel
theorem dX8_goesOut_87 : decode cX8_goesOut 87 = .ok (.iconst 1, 1) := by decide +kernel
theorem dX8_goesOut_88 : decode cX8_goesOut 88 = .ok (.iload_n 3, 1) := by decide +kernel
theorem dX8_goesOut_89 : decode cX8_goesOut 89 = .ok (.ishl, 1) := by decide +kernel
theorem dX8_goesOut_90 : decode cX8_goesOut 90 = .ok (.ior, 1) := by decide +kernel
theorem dX8_goesOut_91 : decode cX8_goesOut 91 = .ok (.iload_n 2, 1) := by decide +kernel
theorem dX8_goesOut_92 : decode cX8_goesOut 92 = .ok (.iconst 1, 1) := by decide +kernel
theorem dX8_goesOut_93 : decode cX8_goesOut 93 = .ok (.iadd, 1) := by decide +kernel
theorem dX8_goesOut_94 : decode cX8_goesOut 94 = .ok (.invokevirtual 142, 3) := by decide +kernel
theorem dX8_goesOut_97 : decode cX8_goesOut 97 = .ok (.ifCond .eq 5, 3) := by decide +kernel
theorem dX8_goesOut_100 : decode cX8_goesOut 100 = .ok (.iconst 1, 1) := by decide +kernel
theorem dX8_goesOut_101 : decode cX8_goesOut 101 = .ok (.ireturn, 1) := by decide +kernel
theorem dX8_goesOut_102 : decode cX8_goesOut 102 = .ok (.iinc 3 1, 3) := by decide +kernel
theorem dX8_goesOut_105 : decode cX8_goesOut 105 = .ok (.goto (-70), 3) := by decide +kernel
theorem dX8_goesOut_108 : decode cX8_goesOut 108 = .ok (.iconst 0, 1) := by decide +kernel
theorem dX8_goesOut_109 : decode cX8_goesOut 109 = .ok (.ireturn, 1) := by decide +kernel
theorem dX8_orders_0 : decode cX8_orders 0 = .ok (.aload_n 0, 1) := by decide +kernel
theorem dX8_orders_1 : decode cX8_orders 1 = .ok (.getfield 78, 3) := by decide +kernel
theorem dX8_orders_4 : decode cX8_orders 4 = .ok (.ifCond .eq 12, 3) := by decide +kernel
theorem dX8_orders_7 : decode cX8_orders 7 = .ok (.aload_n 0, 1) := by decide +kernel
theorem dX8_orders_8 : decode cX8_orders 8 = .ok (.iconst 0, 1) := by decide +kernel
theorem dX8_orders_9 : decode cX8_orders 9 = .ok (.invokevirtual 114, 3) := by decide +kernel
theorem dX8_orders_12 : decode cX8_orders 12 = .ok (.iconst (-1), 1) := by decide +kernel
theorem dX8_orders_13 : decode cX8_orders 13 = .ok (.if_icmp .eq 5, 3) := by decide +kernel
theorem dX8_orders_16 : decode cX8_orders 16 = .ok (.iconst 0, 1) := by decide +kernel
theorem dX8_orders_17 : decode cX8_orders 17 = .ok (.ireturn, 1) := by decide +kernel
theorem dX8_orders_18 : decode cX8_orders 18 = .ok (.iconst 0, 1) := by decide +kernel
theorem dX8_orders_19 : decode cX8_orders 19 = .ok (.istore_n 1, 1) := by decide +kernel
theorem dX8_orders_20 : decode cX8_orders 20 = .ok (.iload_n 1, 1) := by decide +kernel
theorem dX8_orders_21 : decode cX8_orders 21 = .ok (.sipush 1024, 3) := by decide +kernel
theorem dX8_orders_24 : decode cX8_orders 24 = .ok (.if_icmp .ge 16, 3) := by decide +kernel
theorem dX8_orders_27 : decode cX8_orders 27 = .ok (.aload_n 0, 1) := by decide +kernel
theorem dX8_orders_28 : decode cX8_orders 28 = .ok (.getfield 65, 3) := by decide +kernel
theorem dX8_orders_31 : decode cX8_orders 31 = .ok (.iload_n 1, 1) := by decide +kernel
theorem dX8_orders_32 : decode cX8_orders 32 = .ok (.iconst 0, 1) := by decide +kernel
theorem dX8_orders_33 : decode cX8_orders 33 = .ok (.bastore, 1) := by decide +kernel
theorem dX8_orders_34 : decode cX8_orders 34 = .ok (.iinc 1 1, 3) := by decide +kernel
theorem dX8_orders_37 : decode cX8_orders 37 = .ok (.goto (-17), 3) := by decide +kernel
theorem dX8_orders_40 : decode cX8_orders 40 = .ok (.aload_n 0, 1) := by decide +kernel
theorem dX8_orders_41 : decode cX8_orders 41 = .ok (.iconst 0, 1) := by decide +kernel
theorem dX8_orders_42 : decode cX8_orders 42 = .ok (.iconst 0, 1) := by decide +kernel
theorem dX8_orders_43 : decode cX8_orders 43 = .ok (.invokevirtual 142, 3) := by decide +kernel
theorem dX8_orders_46 : decode cX8_orders 46 = .ok (.ireturn, 1) := by decide +kernel
theorem dX8_order_0 : decode cX8_order 0 = .ok (.aload_n 0, 1) := by decide +kernel
theorem dX8_order_1 : decode cX8_order 1 = .ok (.iconst 0, 1) := by decide +kernel
theorem dX8_order_2 : decode cX8_order 2 = .ok (.putfield 71, 3) := by decide +kernel
theorem dX8_order_5 : decode cX8_order 5 = .ok (.aload_n 0, 1) := by decide +kernel
theorem dX8_order_6 : decode cX8_order 6 = .ok (.invokevirtual 145, 3) := by decide +kernel
theorem dX8_order_9 : decode cX8_order 9 = .ok (.ifCond .eq 24, 3) := by decide +kernel
theorem dX8_order_12 : decode cX8_order 12 = .ok (.iload_n 1, 1) := by decide +kernel
theorem dX8_order_13 : decode cX8_order 13 = .ok (.ifCond .lt 20, 3) := by decide +kernel
theorem dX8_order_16 : decode cX8_order 16 = .ok (.iload_n 1, 1) := by decide +kernel
theorem dX8_order_17 : decode cX8_order 17 = .ok (.aload_n 0, 1) := by decide +kernel
theorem dX8_order_18 : decode cX8_order 18 = .ok (.getfield 139, 3) := by decide +kernel
theorem dX8_order_21 : decode cX8_order 21 = .ok (.if_icmp .ge 12, 3) := by decide +kernel
theorem dX8_order_24 : decode cX8_order 24 = .ok (.aload_n 0, 1) := by decide +kernel
theorem dX8_order_25 : decode cX8_order 25 = .ok (.getfield 68, 3) := by decide +kernel
theorem dX8_order_28 : decode cX8_order 28 = .ok (.iload_n 1, 1) := by decide +kernel
theorem dX8_order_29 : decode cX8_order 29 = .ok (.iaload, 1) := by decide +kernel
theorem dX8_order_30 : decode cX8_order 30 = .ok (.goto 4, 3) := by decide +kernel
theorem dX8_order_33 : decode cX8_order 33 = .ok (.iconst (-1), 1) := by decide +kernel
theorem dX8_order_34 : decode cX8_order 34 = .ok (.ireturn, 1) := by decide +kernel
theorem dX8_next_0 : decode cX8_next 0 = .ok (.aload_n 0, 1) := by decide +kernel
theorem dX8_next_1 : decode cX8_next 1 = .ok (.iconst 0, 1) := by decide +kernel
theorem dX8_next_2 : decode cX8_next 2 = .ok (.putfield 78, 3) := by decide +kernel
theorem dX8_next_5 : decode cX8_next 5 = .ok (.iconst 0, 1) := by decide +kernel
theorem dX8_next_6 : decode cX8_next 6 = .ok (.istore_n 1, 1) := by decide +kernel
theorem dX8_next_7 : decode cX8_next 7 = .ok (.iload_n 1, 1) := by decide +kernel
theorem dX8_next_8 : decode cX8_next 8 = .ok (.aload_n 0, 1) := by decide +kernel
theorem dX8_next_9 : decode cX8_next 9 = .ok (.getfield 75, 3) := by decide +kernel
theorem dX8_next_12 : decode cX8_next 12 = .ok (.if_icmp .ge 65, 3) := by decide +kernel
theorem dX8_next_15 : decode cX8_next 15 = .ok (.aload_n 0, 1) := by decide +kernel
theorem dX8_next_16 : decode cX8_next 16 = .ok (.getfield 19, 3) := by decide +kernel
theorem dX8_next_19 : decode cX8_next 19 = .ok (.iload_n 1, 1) := by decide +kernel
theorem dX8_next_20 : decode cX8_next 20 = .ok (.iaload, 1) := by decide +kernel
theorem dX8_next_21 : decode cX8_next 21 = .ok (.iconst (-1), 1) := by decide +kernel
theorem dX8_next_22 : decode cX8_next 22 = .ok (.if_icmp .eq 42, 3) := by decide +kernel
theorem dX8_next_25 : decode cX8_next 25 = .ok (.aload_n 0, 1) := by decide +kernel
theorem dX8_next_26 : decode cX8_next 26 = .ok (.getfield 19, 3) := by decide +kernel
theorem dX8_next_29 : decode cX8_next 29 = .ok (.iload_n 1, 1) := by decide +kernel
theorem dX8_next_30 : decode cX8_next 30 = .ok (.iaload, 1) := by decide +kernel
theorem dX8_next_31 : decode cX8_next 31 = .ok (.aload_n 0, 1) := by decide +kernel
theorem dX8_next_32 : decode cX8_next 32 = .ok (.getfield 9, 3) := by decide +kernel
theorem dX8_next_35 : decode cX8_next 35 = .ok (.iload_n 1, 1) := by decide +kernel
theorem dX8_next_36 : decode cX8_next 36 = .ok (.iaload, 1) := by decide +kernel
theorem dX8_next_37 : decode cX8_next 37 = .ok (.if_icmp .eq 27, 3) := by decide +kernel
theorem dX8_next_40 : decode cX8_next 40 = .ok (.aload_n 0, 1) := by decide +kernel
theorem dX8_next_41 : decode cX8_next 41 = .ok (.getfield 13, 3) := by decide +kernel
theorem dX8_next_44 : decode cX8_next 44 = .ok (.iload_n 1, 1) := by decide +kernel
theorem dX8_next_45 : decode cX8_next 45 = .ok (.aload_n 0, 1) := by decide +kernel
theorem dX8_next_46 : decode cX8_next 46 = .ok (.getfield 19, 3) := by decide +kernel
theorem dX8_next_49 : decode cX8_next 49 = .ok (.iload_n 1, 1) := by decide +kernel
theorem dX8_next_50 : decode cX8_next 50 = .ok (.iaload, 1) := by decide +kernel
theorem dX8_next_51 : decode cX8_next 51 = .ok (.iastore, 1) := by decide +kernel
theorem dX8_next_52 : decode cX8_next 52 = .ok (.aload_n 0, 1) := by decide +kernel
theorem dX8_next_53 : decode cX8_next 53 = .ok (.getfield 16, 3) := by decide +kernel
theorem dX8_next_56 : decode cX8_next 56 = .ok (.iload_n 1, 1) := by decide +kernel
theorem dX8_next_57 : decode cX8_next 57 = .ok (.aload_n 0, 1) := by decide +kernel
theorem dX8_next_58 : decode cX8_next 58 = .ok (.getfield 22, 3) := by decide +kernel
theorem dX8_next_61 : decode cX8_next 61 = .ok (.iload_n 1, 1) := by decide +kernel
theorem dX8_next_62 : decode cX8_next 62 = .ok (.iaload, 1) := by decide +kernel
theorem dX8_next_63 : decode cX8_next 63 = .ok (.iastore, 1) := by decide +kernel
theorem dX8_next_64 : decode cX8_next 64 = .ok (.aload_n 0, 1) := by decide +kernel
theorem dX8_next_65 : decode cX8_next 65 = .ok (.getfield 19, 3) := by decide +kernel
theorem dX8_next_68 : decode cX8_next 68 = .ok (.iload_n 1, 1) := by decide +kernel
theorem dX8_next_69 : decode cX8_next 69 = .ok (.iconst (-1), 1) := by decide +kernel
theorem dX8_next_70 : decode cX8_next 70 = .ok (.iastore, 1) := by decide +kernel
theorem dX8_next_71 : decode cX8_next 71 = .ok (.iinc 1 1, 3) := by decide +kernel
theorem dX8_next_74 : decode cX8_next 74 = .ok (.goto (-67), 3) := by decide +kernel
theorem dX8_next_77 : decode cX8_next 77 = .ok (.return_, 1) := by decide +kernel
theorem dX8_send_0 : decode cX8_send 0 = .ok (.aload_n 0, 1) := by decide +kernel
theorem dX8_send_1 : decode cX8_send 1 = .ok (.iconst 0, 1) := by decide +kernel
theorem dX8_send_2 : decode cX8_send 2 = .ok (.putfield 71, 3) := by decide +kernel
theorem dX8_send_5 : decode cX8_send 5 = .ok (.aload_n 0, 1) := by decide +kernel
theorem dX8_send_6 : decode cX8_send 6 = .ok (.getfield 149, 3) := by decide +kernel
theorem dX8_send_9 : decode cX8_send 9 = .ok (.bipush 60, 2) := by decide +kernel
theorem dX8_send_11 : decode cX8_send 11 = .ok (.if_icmp .eq 10, 3) := by decide +kernel
theorem dX8_send_14 : decode cX8_send 14 = .ok (.aload_n 0, 1) := by decide +kernel
theorem dX8_send_15 : decode cX8_send 15 = .ok (.invokevirtual 145, 3) := by decide +kernel
theorem dX8_send_18 : decode cX8_send 18 = .ok (.ifCond .ne 5, 3) := by decide +kernel
theorem dX8_send_21 : decode cX8_send 21 = .ok (.iconst (-1), 1) := by decide +kernel
theorem dX8_send_22 : decode cX8_send 22 = .ok (.ireturn, 1) := by decide +kernel
theorem dX8_send_23 : decode cX8_send 23 = .ok (.aload_n 0, 1) := by decide +kernel
theorem dX8_send_24 : decode cX8_send 24 = .ok (.getfield 49, 3) := by decide +kernel
theorem dX8_send_27 : decode cX8_send 27 = .ok (.aload_n 0, 1) := by decide +kernel
theorem dX8_send_28 : decode cX8_send 28 = .ok (.getfield 149, 3) := by decide +kernel
theorem dX8_send_31 : decode cX8_send 31 = .ok (.aload_n 0, 1) := by decide +kernel
theorem dX8_send_32 : decode cX8_send 32 = .ok (.getfield 75, 3) := by decide +kernel
theorem dX8_send_35 : decode cX8_send 35 = .ok (.iastore, 1) := by decide +kernel
theorem dX8_send_36 : decode cX8_send 36 = .ok (.aload_n 0, 1) := by decide +kernel
theorem dX8_send_37 : decode cX8_send 37 = .ok (.getfield 52, 3) := by decide +kernel
theorem dX8_send_40 : decode cX8_send 40 = .ok (.aload_n 0, 1) := by decide +kernel
theorem dX8_send_41 : decode cX8_send 41 = .ok (.getfield 149, 3) := by decide +kernel
theorem dX8_send_44 : decode cX8_send 44 = .ok (.aload_n 0, 1) := by decide +kernel
theorem dX8_send_45 : decode cX8_send 45 = .ok (.getfield 90, 3) := by decide +kernel
theorem dX8_send_48 : decode cX8_send 48 = .ok (.iastore, 1) := by decide +kernel
theorem dX8_send_49 : decode cX8_send 49 = .ok (.aload_n 0, 1) := by decide +kernel
theorem dX8_send_50 : decode cX8_send 50 = .ok (.getfield 61, 3) := by decide +kernel
theorem dX8_send_53 : decode cX8_send 53 = .ok (.aload_n 0, 1) := by decide +kernel
theorem dX8_send_54 : decode cX8_send 54 = .ok (.getfield 149, 3) := by decide +kernel
theorem dX8_send_57 : decode cX8_send 57 = .ok (.iconst 0, 1) := by decide +kernel
theorem dX8_send_58 : decode cX8_send 58 = .ok (.bastore, 1) := by decide +kernel
theorem dX8_send_59 : decode cX8_send 59 = .ok (.iconst 0, 1) := by decide +kernel
theorem dX8_send_60 : decode cX8_send 60 = .ok (.istore_n 1, 1) := by decide +kernel
theorem dX8_send_61 : decode cX8_send 61 = .ok (.iload_n 1, 1) := by decide +kernel
theorem dX8_send_62 : decode cX8_send 62 = .ok (.aload_n 0, 1) := by decide +kernel
theorem dX8_send_63 : decode cX8_send 63 = .ok (.getfield 75, 3) := by decide +kernel
theorem dX8_send_66 : decode cX8_send 66 = .ok (.if_icmp .ge 79, 3) := by decide +kernel
theorem dX8_send_69 : decode cX8_send 69 = .ok (.aload_n 0, 1) := by decide +kernel
theorem dX8_send_70 : decode cX8_send 70 = .ok (.getfield 55, 3) := by decide +kernel
theorem dX8_send_73 : decode cX8_send 73 = .ok (.bipush 10, 2) := by decide +kernel
theorem dX8_send_75 : decode cX8_send 75 = .ok (.aload_n 0, 1) := by decide +kernel
theorem dX8_send_76 : decode cX8_send 76 = .ok (.getfield 149, 3) := by decide +kernel
theorem dX8_send_79 : decode cX8_send 79 = .ok (.imul, 1) := by decide +kernel
theorem dX8_send_80 : decode cX8_send 80 = .ok (.iload_n 1, 1) := by decide +kernel
theorem dX8_send_81 : decode cX8_send 81 = .ok (.iadd, 1) := by decide +kernel
theorem dX8_send_82 : decode cX8_send 82 = .ok (.aload_n 0, 1) := by decide +kernel
theorem dX8_send_83 : decode cX8_send 83 = .ok (.getfield 9, 3) := by decide +kernel
theorem dX8_send_86 : decode cX8_send 86 = .ok (.iload_n 1, 1) := by decide +kernel
theorem dX8_send_87 : decode cX8_send 87 = .ok (.iaload, 1) := by decide +kernel
theorem dX8_send_88 : decode cX8_send 88 = .ok (.iastore, 1) := by decide +kernel
theorem dX8_send_89 : decode cX8_send 89 = .ok (.aload_n 0, 1) := by decide +kernel
theorem dX8_send_90 : decode cX8_send 90 = .ok (.getfield 90, 3) := by decide +kernel
theorem dX8_send_93 : decode cX8_send 93 = .ok (.iload_n 1, 1) := by decide +kernel
theorem dX8_send_94 : decode cX8_send 94 = .ok (.invokestatic 93, 3) := by decide +kernel
theorem dX8_send_97 : decode cX8_send 97 = .ok (.ifCond .eq 22, 3) := by decide +kernel
theorem dX8_send_100 : decode cX8_send 100 = .ok (.aload_n 0, 1) := by decide +kernel
theorem dX8_send_101 : decode cX8_send 101 = .ok (.getfield 9, 3) := by decide +kernel
theorem dX8_send_104 : decode cX8_send 104 = .ok (.iload_n 1, 1) := by decide +kernel
theorem dX8_send_105 : decode cX8_send 105 = .ok (.aload_n 0, 1) := by decide +kernel
theorem dX8_send_106 : decode cX8_send 106 = .ok (.getfield 13, 3) := by decide +kernel
theorem dX8_send_109 : decode cX8_send 109 = .ok (.iload_n 1, 1) := by decide +kernel
theorem dX8_send_110 : decode cX8_send 110 = .ok (.iaload, 1) := by decide +kernel
theorem dX8_send_111 : decode cX8_send 111 = .ok (.iastore, 1) := by decide +kernel
theorem dX8_send_112 : decode cX8_send 112 = .ok (.aload_n 0, 1) := by decide +kernel
theorem dX8_send_113 : decode cX8_send 113 = .ok (.getfield 13, 3) := by decide +kernel
theorem dX8_send_116 : decode cX8_send 116 = .ok (.iload_n 1, 1) := by decide +kernel
theorem dX8_send_117 : decode cX8_send 117 = .ok (.iconst (-1), 1) := by decide +kernel
theorem dX8_send_118 : decode cX8_send 118 = .ok (.iastore, 1) := by decide +kernel
theorem dX8_send_119 : decode cX8_send 119 = .ok (.aload_n 0, 1) := by decide +kernel
theorem dX8_send_120 : decode cX8_send 120 = .ok (.getfield 58, 3) := by decide +kernel
theorem dX8_send_123 : decode cX8_send 123 = .ok (.bipush 10, 2) := by decide +kernel
theorem dX8_send_125 : decode cX8_send 125 = .ok (.aload_n 0, 1) := by decide +kernel
theorem dX8_send_126 : decode cX8_send 126 = .ok (.getfield 149, 3) := by decide +kernel
theorem dX8_send_129 : decode cX8_send 129 = .ok (.imul, 1) := by decide +kernel
theorem dX8_send_130 : decode cX8_send 130 = .ok (.iload_n 1, 1) := by decide +kernel
theorem dX8_send_131 : decode cX8_send 131 = .ok (.iadd, 1) := by decide +kernel
theorem dX8_send_132 : decode cX8_send 132 = .ok (.aload_n 0, 1) := by decide +kernel
theorem dX8_send_133 : decode cX8_send 133 = .ok (.getfield 9, 3) := by decide +kernel
theorem dX8_send_136 : decode cX8_send 136 = .ok (.iload_n 1, 1) := by decide +kernel
theorem dX8_send_137 : decode cX8_send 137 = .ok (.iaload, 1) := by decide +kernel
theorem dX8_send_138 : decode cX8_send 138 = .ok (.iastore, 1) := by decide +kernel
theorem dX8_send_139 : decode cX8_send 139 = .ok (.iinc 1 1, 3) := by decide +kernel
theorem dX8_send_142 : decode cX8_send 142 = .ok (.goto (-81), 3) := by decide +kernel
theorem dX8_send_145 : decode cX8_send 145 = .ok (.aload_n 0, 1) := by decide +kernel
theorem dX8_send_146 : decode cX8_send 146 = .ok (.dup, 1) := by decide +kernel
theorem dX8_send_147 : decode cX8_send 147 = .ok (.getfield 149, 3) := by decide +kernel
theorem dX8_send_150 : decode cX8_send 150 = .ok (.iconst 1, 1) := by decide +kernel
theorem dX8_send_151 : decode cX8_send 151 = .ok (.iadd, 1) := by decide +kernel
theorem dX8_send_152 : decode cX8_send 152 = .ok (.putfield 149, 3) := by decide +kernel
theorem dX8_send_155 : decode cX8_send 155 = .ok (.aload_n 0, 1) := by decide +kernel
theorem dX8_send_156 : decode cX8_send 156 = .ok (.invokevirtual 152, 3) := by decide +kernel
theorem dX8_send_159 : decode cX8_send 159 = .ok (.aload_n 0, 1) := by decide +kernel
theorem dX8_send_160 : decode cX8_send 160 = .ok (.getfield 149, 3) := by decide +kernel
theorem dX8_send_163 : decode cX8_send 163 = .ok (.iconst 1, 1) := by decide +kernel
theorem dX8_send_164 : decode cX8_send 164 = .ok (.isub, 1) := by decide +kernel
theorem dX8_send_165 : decode cX8_send 165 = .ok (.ireturn, 1) := by decide +kernel
theorem dX8_giveUp_0 : decode cX8_giveUp 0 = .ok (.aload_n 0, 1) := by decide +kernel
theorem dX8_giveUp_1 : decode cX8_giveUp 1 = .ok (.iconst 0, 1) := by decide +kernel
theorem dX8_giveUp_2 : decode cX8_giveUp 2 = .ok (.putfield 71, 3) := by decide +kernel
theorem dX8_giveUp_5 : decode cX8_giveUp 5 = .ok (.aload_n 0, 1) := by decide +kernel
theorem dX8_giveUp_6 : decode cX8_giveUp 6 = .ok (.getfield 78, 3) := by decide +kernel
theorem dX8_giveUp_9 : decode cX8_giveUp 9 = .ok (.ifCond .ne 5, 3) := by decide +kernel
theorem dX8_giveUp_12 : decode cX8_giveUp 12 = .ok (.iconst 0, 1) := by decide +kernel
theorem dX8_giveUp_13 : decode cX8_giveUp 13 = .ok (.ireturn, 1) := by decide +kernel
theorem dX8_giveUp_14 : decode cX8_giveUp 14 = .ok (.aload_n 0, 1) := by decide +kernel
theorem dX8_giveUp_15 : decode cX8_giveUp 15 = .ok (.invokevirtual 152, 3) := by decide +kernel
theorem dX8_giveUp_18 : decode cX8_giveUp 18 = .ok (.iconst 1, 1) := by decide +kernel
theorem dX8_giveUp_19 : decode cX8_giveUp 19 = .ok (.ireturn, 1) := by decide +kernel
theorem dX8_way_0 : decode cX8_way 0 = .ok (.iconst 0, 1) := by decide +kernel
theorem dX8_way_1 : decode cX8_way 1 = .ok (.istore_n 3, 1) := by decide +kernel
theorem dX8_way_2 : decode cX8_way 2 = .ok (.iload_n 3, 1) := by decide +kernel
theorem dX8_way_3 : decode cX8_way 3 = .ok (.aload_n 0, 1) := by decide +kernel
theorem dX8_way_4 : decode cX8_way 4 = .ok (.getfield 155, 3) := by decide +kernel
theorem dX8_way_7 : decode cX8_way 7 = .ok (.if_icmp .ge 31, 3) := by decide +kernel
theorem dX8_way_10 : decode cX8_way 10 = .ok (.aload_n 0, 1) := by decide +kernel
theorem dX8_way_11 : decode cX8_way 11 = .ok (.getfield 43, 3) := by decide +kernel
theorem dX8_way_14 : decode cX8_way 14 = .ok (.iload_n 3, 1) := by decide +kernel
theorem dX8_way_15 : decode cX8_way 15 = .ok (.iaload, 1) := by decide +kernel
theorem dX8_way_16 : decode cX8_way 16 = .ok (.iload_n 1, 1) := by decide +kernel
theorem dX8_way_17 : decode cX8_way 17 = .ok (.if_icmp .ne 15, 3) := by decide +kernel
theorem dX8_way_20 : decode cX8_way 20 = .ok (.aload_n 0, 1) := by decide +kernel
theorem dX8_way_21 : decode cX8_way 21 = .ok (.getfield 46, 3) := by decide +kernel
theorem dX8_way_24 : decode cX8_way 24 = .ok (.iload_n 3, 1) := by decide +kernel
theorem dX8_way_25 : decode cX8_way 25 = .ok (.iaload, 1) := by decide +kernel
theorem dX8_way_26 : decode cX8_way 26 = .ok (.iload_n 2, 1) := by decide +kernel
theorem dX8_way_27 : decode cX8_way 27 = .ok (.if_icmp .ne 5, 3) := by decide +kernel
theorem dX8_way_30 : decode cX8_way 30 = .ok (.iload_n 3, 1) := by decide +kernel
theorem dX8_way_31 : decode cX8_way 31 = .ok (.ireturn, 1) := by decide +kernel
theorem dX8_way_32 : decode cX8_way 32 = .ok (.iinc 3 1, 3) := by decide +kernel
theorem dX8_way_35 : decode cX8_way 35 = .ok (.goto (-33), 3) := by decide +kernel
theorem dX8_way_38 : decode cX8_way 38 = .ok (.iconst (-1), 1) := by decide +kernel
theorem dX8_way_39 : decode cX8_way 39 = .ok (.ireturn, 1) := by decide +kernel
theorem dX8_oneWay_0 : decode cX8_oneWay 0 = .ok (.aload_n 0, 1) := by decide +kernel
theorem dX8_oneWay_1 : decode cX8_oneWay 1 = .ok (.iconst 0, 1) := by decide +kernel
theorem dX8_oneWay_2 : decode cX8_oneWay 2 = .ok (.putfield 71, 3) := by decide +kernel
theorem dX8_oneWay_5 : decode cX8_oneWay 5 = .ok (.aload_n 0, 1) := by decide +kernel
theorem dX8_oneWay_6 : decode cX8_oneWay 6 = .ok (.iload_n 1, 1) := by decide +kernel
theorem dX8_oneWay_7 : decode cX8_oneWay 7 = .ok (.invokevirtual 86, 3) := by decide +kernel
theorem dX8_oneWay_10 : decode cX8_oneWay 10 = .ok (.ifCond .eq 14, 3) := by decide +kernel
theorem dX8_oneWay_13 : decode cX8_oneWay 13 = .ok (.iload_n 2, 1) := by decide +kernel
theorem dX8_oneWay_14 : decode cX8_oneWay 14 = .ok (.iconst 0, 1) := by decide +kernel
theorem dX8_oneWay_15 : decode cX8_oneWay 15 = .ok (.sipush 1000, 3) := by decide +kernel
theorem dX8_oneWay_18 : decode cX8_oneWay 18 = .ok (.invokestatic 82, 3) := by decide +kernel
theorem dX8_oneWay_21 : decode cX8_oneWay 21 = .ok (.ifCond .ne 5, 3) := by decide +kernel
theorem dX8_oneWay_24 : decode cX8_oneWay 24 = .ok (.iconst 0, 1) := by decide +kernel
theorem dX8_oneWay_25 : decode cX8_oneWay 25 = .ok (.ireturn, 1) := by decide +kernel
theorem dX8_oneWay_26 : decode cX8_oneWay 26 = .ok (.aload_n 0, 1) := by decide +kernel
theorem dX8_oneWay_27 : decode cX8_oneWay 27 = .ok (.iload_n 1, 1) := by decide +kernel
theorem dX8_oneWay_28 : decode cX8_oneWay 28 = .ok (.iload_n 2, 1) := by decide +kernel
theorem dX8_oneWay_29 : decode cX8_oneWay 29 = .ok (.invokevirtual 158, 3) := by decide +kernel
theorem dX8_oneWay_32 : decode cX8_oneWay 32 = .ok (.istore 4, 2) := by decide +kernel
theorem dX8_oneWay_34 : decode cX8_oneWay 34 = .ok (.iload 4, 2) := by decide +kernel
theorem dX8_oneWay_36 : decode cX8_oneWay 36 = .ok (.iconst (-1), 1) := by decide +kernel
theorem dX8_oneWay_37 : decode cX8_oneWay 37 = .ok (.if_icmp .eq 7, 3) := by decide +kernel
theorem dX8_oneWay_40 : decode cX8_oneWay 40 = .ok (.iconst 1, 1) := by decide +kernel
theorem dX8_oneWay_41 : decode cX8_oneWay 41 = .ok (.goto 4, 3) := by decide +kernel
theorem dX8_oneWay_44 : decode cX8_oneWay 44 = .ok (.iconst 0, 1) := by decide +kernel
theorem dX8_oneWay_45 : decode cX8_oneWay 45 = .ok (.iload_n 3, 1) := by decide +kernel
theorem dX8_oneWay_46 : decode cX8_oneWay 46 = .ok (.if_icmp .eq 16, 3) := by decide +kernel
theorem dX8_oneWay_49 : decode cX8_oneWay 49 = .ok (.iload_n 3, 1) := by decide +kernel
theorem dX8_oneWay_50 : decode cX8_oneWay 50 = .ok (.ifCond .eq 14, 3) := by decide +kernel
theorem dX8_oneWay_53 : decode cX8_oneWay 53 = .ok (.aload_n 0, 1) := by decide +kernel
theorem dX8_oneWay_54 : decode cX8_oneWay 54 = .ok (.getfield 155, 3) := by decide +kernel
theorem dX8_oneWay_57 : decode cX8_oneWay 57 = .ok (.bipush 60, 2) := by decide +kernel
theorem dX8_oneWay_59 : decode cX8_oneWay 59 = .ok (.if_icmp .ne 5, 3) := by decide +kernel
theorem dX8_oneWay_62 : decode cX8_oneWay 62 = .ok (.iconst 0, 1) := by decide +kernel
theorem dX8_oneWay_63 : decode cX8_oneWay 63 = .ok (.ireturn, 1) := by decide +kernel
theorem dX8_oneWay_64 : decode cX8_oneWay 64 = .ok (.iload_n 3, 1) := by decide +kernel
theorem dX8_oneWay_65 : decode cX8_oneWay 65 = .ok (.ifCond .eq 35, 3) := by decide +kernel
theorem dX8_oneWay_68 : decode cX8_oneWay 68 = .ok (.aload_n 0, 1) := by decide +kernel
theorem dX8_oneWay_69 : decode cX8_oneWay 69 = .ok (.getfield 43, 3) := by decide +kernel
theorem dX8_oneWay_72 : decode cX8_oneWay 72 = .ok (.aload_n 0, 1) := by decide +kernel
theorem dX8_oneWay_73 : decode cX8_oneWay 73 = .ok (.getfield 155, 3) := by decide +kernel
theorem dX8_oneWay_76 : decode cX8_oneWay 76 = .ok (.iload_n 1, 1) := by decide +kernel
theorem dX8_oneWay_77 : decode cX8_oneWay 77 = .ok (.iastore, 1) := by decide +kernel
theorem dX8_oneWay_78 : decode cX8_oneWay 78 = .ok (.aload_n 0, 1) := by decide +kernel
theorem dX8_oneWay_79 : decode cX8_oneWay 79 = .ok (.getfield 46, 3) := by decide +kernel
theorem dX8_oneWay_82 : decode cX8_oneWay 82 = .ok (.aload_n 0, 1) := by decide +kernel
theorem dX8_oneWay_83 : decode cX8_oneWay 83 = .ok (.getfield 155, 3) := by decide +kernel
theorem dX8_oneWay_86 : decode cX8_oneWay 86 = .ok (.iload_n 2, 1) := by decide +kernel
theorem dX8_oneWay_87 : decode cX8_oneWay 87 = .ok (.iastore, 1) := by decide +kernel
theorem dX8_oneWay_88 : decode cX8_oneWay 88 = .ok (.aload_n 0, 1) := by decide +kernel
theorem dX8_oneWay_89 : decode cX8_oneWay 89 = .ok (.dup, 1) := by decide +kernel
theorem dX8_oneWay_90 : decode cX8_oneWay 90 = .ok (.getfield 155, 3) := by decide +kernel
theorem dX8_oneWay_93 : decode cX8_oneWay 93 = .ok (.iconst 1, 1) := by decide +kernel
theorem dX8_oneWay_94 : decode cX8_oneWay 94 = .ok (.iadd, 1) := by decide +kernel
theorem dX8_oneWay_95 : decode cX8_oneWay 95 = .ok (.putfield 155, 3) := by decide +kernel
theorem dX8_oneWay_98 : decode cX8_oneWay 98 = .ok (.iconst 1, 1) := by decide +kernel
theorem dX8_oneWay_99 : decode cX8_oneWay 99 = .ok (.ireturn, 1) := by decide +kernel
theorem dX8_oneWay_100 : decode cX8_oneWay 100 = .ok (.aload_n 0, 1) := by decide +kernel
theorem dX8_oneWay_101 : decode cX8_oneWay 101 = .ok (.dup, 1) := by decide +kernel
theorem dX8_oneWay_102 : decode cX8_oneWay 102 = .ok (.getfield 155, 3) := by decide +kernel
theorem dX8_oneWay_105 : decode cX8_oneWay 105 = .ok (.iconst 1, 1) := by decide +kernel
theorem dX8_oneWay_106 : decode cX8_oneWay 106 = .ok (.isub, 1) := by decide +kernel
theorem dX8_oneWay_107 : decode cX8_oneWay 107 = .ok (.putfield 155, 3) := by decide +kernel
theorem dX8_oneWay_110 : decode cX8_oneWay 110 = .ok (.aload_n 0, 1) := by decide +kernel
theorem dX8_oneWay_111 : decode cX8_oneWay 111 = .ok (.getfield 43, 3) := by decide +kernel
theorem dX8_oneWay_114 : decode cX8_oneWay 114 = .ok (.iload 4, 2) := by decide +kernel
theorem dX8_oneWay_116 : decode cX8_oneWay 116 = .ok (.aload_n 0, 1) := by decide +kernel
theorem dX8_oneWay_117 : decode cX8_oneWay 117 = .ok (.getfield 43, 3) := by decide +kernel
theorem dX8_oneWay_120 : decode cX8_oneWay 120 = .ok (.aload_n 0, 1) := by decide +kernel
theorem dX8_oneWay_121 : decode cX8_oneWay 121 = .ok (.getfield 155, 3) := by decide +kernel
theorem dX8_oneWay_124 : decode cX8_oneWay 124 = .ok (.iaload, 1) := by decide +kernel
theorem dX8_oneWay_125 : decode cX8_oneWay 125 = .ok (.iastore, 1) := by decide +kernel
theorem dX8_oneWay_126 : decode cX8_oneWay 126 = .ok (.aload_n 0, 1) := by decide +kernel
theorem dX8_oneWay_127 : decode cX8_oneWay 127 = .ok (.getfield 46, 3) := by decide +kernel
theorem dX8_oneWay_130 : decode cX8_oneWay 130 = .ok (.iload 4, 2) := by decide +kernel
theorem dX8_oneWay_132 : decode cX8_oneWay 132 = .ok (.aload_n 0, 1) := by decide +kernel
theorem dX8_oneWay_133 : decode cX8_oneWay 133 = .ok (.getfield 46, 3) := by decide +kernel
theorem dX8_oneWay_136 : decode cX8_oneWay 136 = .ok (.aload_n 0, 1) := by decide +kernel
theorem dX8_oneWay_137 : decode cX8_oneWay 137 = .ok (.getfield 155, 3) := by decide +kernel
theorem dX8_oneWay_140 : decode cX8_oneWay 140 = .ok (.iaload, 1) := by decide +kernel
theorem dX8_oneWay_141 : decode cX8_oneWay 141 = .ok (.iastore, 1) := by decide +kernel
theorem dX8_oneWay_142 : decode cX8_oneWay 142 = .ok (.iconst 1, 1) := by decide +kernel
theorem dX8_oneWay_143 : decode cX8_oneWay 143 = .ok (.ireturn, 1) := by decide +kernel
theorem dX8_back_0 : decode cX8_back 0 = .ok (.aload_n 0, 1) := by decide +kernel
theorem dX8_back_1 : decode cX8_back 1 = .ok (.iconst 0, 1) := by decide +kernel
theorem dX8_back_2 : decode cX8_back 2 = .ok (.putfield 71, 3) := by decide +kernel
theorem dX8_back_5 : decode cX8_back 5 = .ok (.aload_n 0, 1) := by decide +kernel
theorem dX8_back_6 : decode cX8_back 6 = .ok (.getfield 149, 3) := by decide +kernel
theorem dX8_back_9 : decode cX8_back 9 = .ok (.iconst 1, 1) := by decide +kernel
theorem dX8_back_10 : decode cX8_back 10 = .ok (.isub, 1) := by decide +kernel
theorem dX8_back_11 : decode cX8_back 11 = .ok (.istore_n 1, 1) := by decide +kernel
theorem dX8_back_12 : decode cX8_back 12 = .ok (.iload_n 1, 1) := by decide +kernel
theorem dX8_back_13 : decode cX8_back 13 = .ok (.ifCond .lt 18, 3) := by decide +kernel
theorem dX8_back_16 : decode cX8_back 16 = .ok (.aload_n 0, 1) := by decide +kernel
theorem dX8_back_17 : decode cX8_back 17 = .ok (.getfield 61, 3) := by decide +kernel
theorem dX8_back_20 : decode cX8_back 20 = .ok (.iload_n 1, 1) := by decide +kernel
theorem dX8_back_21 : decode cX8_back 21 = .ok (.baload, 1) := by decide +kernel
theorem dX8_back_22 : decode cX8_back 22 = .ok (.ifCond .eq 9, 3) := by decide +kernel
theorem dX8_back_25 : decode cX8_back 25 = .ok (.iinc 1 (-1), 3) := by decide +kernel
theorem dX8_back_28 : decode cX8_back 28 = .ok (.goto (-16), 3) := by decide +kernel
theorem dX8_back_31 : decode cX8_back 31 = .ok (.aload_n 0, 1) := by decide +kernel
theorem dX8_back_32 : decode cX8_back 32 = .ok (.getfield 78, 3) := by decide +kernel
theorem dX8_back_35 : decode cX8_back 35 = .ok (.ifCond .ne 7, 3) := by decide +kernel
theorem dX8_back_38 : decode cX8_back 38 = .ok (.iload_n 1, 1) := by decide +kernel
theorem dX8_back_39 : decode cX8_back 39 = .ok (.ifCond .ge 5, 3) := by decide +kernel
theorem dX8_back_42 : decode cX8_back 42 = .ok (.iconst (-1), 1) := by decide +kernel
theorem dX8_back_43 : decode cX8_back 43 = .ok (.ireturn, 1) := by decide +kernel
theorem dX8_back_44 : decode cX8_back 44 = .ok (.iconst 0, 1) := by decide +kernel
theorem dX8_back_45 : decode cX8_back 45 = .ok (.istore_n 2, 1) := by decide +kernel
theorem dX8_back_46 : decode cX8_back 46 = .ok (.iload_n 2, 1) := by decide +kernel
theorem dX8_back_47 : decode cX8_back 47 = .ok (.aload_n 0, 1) := by decide +kernel
theorem dX8_back_48 : decode cX8_back 48 = .ok (.getfield 75, 3) := by decide +kernel
theorem dX8_back_51 : decode cX8_back 51 = .ok (.if_icmp .ge 39, 3) := by decide +kernel
theorem dX8_back_54 : decode cX8_back 54 = .ok (.aload_n 0, 1) := by decide +kernel
theorem dX8_back_55 : decode cX8_back 55 = .ok (.getfield 52, 3) := by decide +kernel
theorem dX8_back_58 : decode cX8_back 58 = .ok (.iload_n 1, 1) := by decide +kernel
theorem dX8_back_59 : decode cX8_back 59 = .ok (.iaload, 1) := by decide +kernel
theorem dX8_back_60 : decode cX8_back 60 = .ok (.iload_n 2, 1) := by decide +kernel
theorem dX8_back_61 : decode cX8_back 61 = .ok (.invokestatic 93, 3) := by decide +kernel
theorem dX8_back_64 : decode cX8_back 64 = .ok (.ifCond .eq 20, 3) := by decide +kernel
theorem dX8_back_67 : decode cX8_back 67 = .ok (.aload_n 0, 1) := by decide +kernel
theorem dX8_back_68 : decode cX8_back 68 = .ok (.iload_n 2, 1) := by decide +kernel
theorem dX8_back_69 : decode cX8_back 69 = .ok (.aload_n 0, 1) := by decide +kernel
theorem dX8_back_70 : decode cX8_back 70 = .ok (.getfield 9, 3) := by decide +kernel
theorem dX8_back_73 : decode cX8_back 73 = .ok (.iload_n 2, 1) := by decide +kernel
theorem dX8_back_74 : decode cX8_back 74 = .ok (.iaload, 1) := by decide +kernel
theorem dX8_back_75 : decode cX8_back 75 = .ok (.invokevirtual 158, 3) := by decide +kernel
theorem dX8_back_78 : decode cX8_back 78 = .ok (.iconst (-1), 1) := by decide +kernel
theorem dX8_back_79 : decode cX8_back 79 = .ok (.if_icmp .eq 5, 3) := by decide +kernel
theorem dX8_back_82 : decode cX8_back 82 = .ok (.iconst (-1), 1) := by decide +kernel
theorem dX8_back_83 : decode cX8_back 83 = .ok (.ireturn, 1) := by decide +kernel
theorem dX8_back_84 : decode cX8_back 84 = .ok (.iinc 2 1, 3) := by decide +kernel
theorem dX8_back_87 : decode cX8_back 87 = .ok (.goto (-41), 3) := by decide +kernel
theorem dX8_back_90 : decode cX8_back 90 = .ok (.aload_n 0, 1) := by decide +kernel
theorem dX8_back_91 : decode cX8_back 91 = .ok (.getfield 9, 3) := by decide +kernel
theorem dX8_back_94 : decode cX8_back 94 = .ok (.invokevirtual 161, 3) := by decide +kernel
theorem dX8_back_97 : decode cX8_back 97 = .ok (.checkcast 162, 3) := by decide +kernel
theorem dX8_back_100 : decode cX8_back 100 = .ok (.astore_n 2, 1) := by decide +kernel
theorem dX8_back_101 : decode cX8_back 101 = .ok (.iconst 0, 1) := by decide +kernel
theorem dX8_back_102 : decode cX8_back 102 = .ok (.istore_n 3, 1) := by decide +kernel
theorem dX8_back_103 : decode cX8_back 103 = .ok (.iload_n 3, 1) := by decide +kernel
theorem dX8_back_104 : decode cX8_back 104 = .ok (.aload_n 0, 1) := by decide +kernel
theorem dX8_back_105 : decode cX8_back 105 = .ok (.getfield 75, 3) := by decide +kernel
theorem dX8_back_108 : decode cX8_back 108 = .ok (.if_icmp .ge 39, 3) := by decide +kernel
theorem dX8_back_111 : decode cX8_back 111 = .ok (.aload_n 0, 1) := by decide +kernel
theorem dX8_back_112 : decode cX8_back 112 = .ok (.getfield 52, 3) := by decide +kernel
theorem dX8_back_115 : decode cX8_back 115 = .ok (.iload_n 1, 1) := by decide +kernel
theorem dX8_back_116 : decode cX8_back 116 = .ok (.iaload, 1) := by decide +kernel
theorem dX8_back_117 : decode cX8_back 117 = .ok (.iload_n 3, 1) := by decide +kernel
theorem dX8_back_118 : decode cX8_back 118 = .ok (.invokestatic 93, 3) := by decide +kernel
theorem dX8_back_121 : decode cX8_back 121 = .ok (.ifCond .eq 20, 3) := by decide +kernel
theorem dX8_back_124 : decode cX8_back 124 = .ok (.aload_n 0, 1) := by decide +kernel
theorem dX8_back_125 : decode cX8_back 125 = .ok (.getfield 9, 3) := by decide +kernel
theorem dX8_back_128 : decode cX8_back 128 = .ok (.iload_n 3, 1) := by decide +kernel
theorem dX8_back_129 : decode cX8_back 129 = .ok (.aload_n 0, 1) := by decide +kernel
theorem dX8_back_130 : decode cX8_back 130 = .ok (.getfield 55, 3) := by decide +kernel
theorem dX8_back_133 : decode cX8_back 133 = .ok (.bipush 10, 2) := by decide +kernel
theorem dX8_back_135 : decode cX8_back 135 = .ok (.iload_n 1, 1) := by decide +kernel
theorem dX8_back_136 : decode cX8_back 136 = .ok (.imul, 1) := by decide +kernel
theorem dX8_back_137 : decode cX8_back 137 = .ok (.iload_n 3, 1) := by decide +kernel
theorem dX8_back_138 : decode cX8_back 138 = .ok (.iadd, 1) := by decide +kernel
theorem dX8_back_139 : decode cX8_back 139 = .ok (.iaload, 1) := by decide +kernel
theorem dX8_back_140 : decode cX8_back 140 = .ok (.iastore, 1) := by decide +kernel
theorem dX8_back_141 : decode cX8_back 141 = .ok (.iinc 3 1, 3) := by decide +kernel
theorem dX8_back_144 : decode cX8_back 144 = .ok (.goto (-41), 3) := by decide +kernel
theorem dX8_back_147 : decode cX8_back 147 = .ok (.aload_n 0, 1) := by decide +kernel
theorem dX8_back_148 : decode cX8_back 148 = .ok (.iconst 0, 1) := by decide +kernel
theorem dX8_back_149 : decode cX8_back 149 = .ok (.invokevirtual 114, 3) := by decide +kernel
theorem dX8_back_152 : decode cX8_back 152 = .ok (.iconst (-1), 1) := by decide +kernel
theorem dX8_back_153 : decode cX8_back 153 = .ok (.if_icmp .eq 30, 3) := by decide +kernel
theorem dX8_back_156 : decode cX8_back 156 = .ok (.iconst 0, 1) := by decide +kernel
theorem dX8_back_157 : decode cX8_back 157 = .ok (.istore_n 3, 1) := by decide +kernel
theorem dX8_back_158 : decode cX8_back 158 = .ok (.iload_n 3, 1) := by decide +kernel
theorem dX8_back_159 : decode cX8_back 159 = .ok (.aload_n 0, 1) := by decide +kernel
theorem dX8_back_160 : decode cX8_back 160 = .ok (.getfield 75, 3) := by decide +kernel
theorem dX8_back_163 : decode cX8_back 163 = .ok (.if_icmp .ge 18, 3) := by decide +kernel
theorem dX8_back_166 : decode cX8_back 166 = .ok (.aload_n 0, 1) := by decide +kernel
theorem dX8_back_167 : decode cX8_back 167 = .ok (.getfield 9, 3) := by decide +kernel
theorem dX8_back_170 : decode cX8_back 170 = .ok (.iload_n 3, 1) := by decide +kernel
theorem dX8_back_171 : decode cX8_back 171 = .ok (.aload_n 2, 1) := by decide +kernel
theorem dX8_back_172 : decode cX8_back 172 = .ok (.iload_n 3, 1) := by decide +kernel
theorem dX8_back_173 : decode cX8_back 173 = .ok (.iaload, 1) := by decide +kernel
theorem dX8_back_174 : decode cX8_back 174 = .ok (.iastore, 1) := by decide +kernel
theorem dX8_back_175 : decode cX8_back 175 = .ok (.iinc 3 1, 3) := by decide +kernel
theorem dX8_back_178 : decode cX8_back 178 = .ok (.goto (-20), 3) := by decide +kernel
theorem dX8_back_181 : decode cX8_back 181 = .ok (.iconst (-1), 1) := by decide +kernel
theorem dX8_back_182 : decode cX8_back 182 = .ok (.ireturn, 1) := by decide +kernel
theorem dX8_back_183 : decode cX8_back 183 = .ok (.iconst 0, 1) := by decide +kernel
theorem dX8_back_184 : decode cX8_back 184 = .ok (.istore_n 3, 1) := by decide +kernel
theorem dX8_back_185 : decode cX8_back 185 = .ok (.iload_n 3, 1) := by decide +kernel
theorem dX8_back_186 : decode cX8_back 186 = .ok (.aload_n 0, 1) := by decide +kernel
theorem dX8_back_187 : decode cX8_back 187 = .ok (.getfield 75, 3) := by decide +kernel
theorem dX8_back_190 : decode cX8_back 190 = .ok (.if_icmp .ge 44, 3) := by decide +kernel
theorem dX8_back_193 : decode cX8_back 193 = .ok (.aload_n 0, 1) := by decide +kernel
theorem dX8_back_194 : decode cX8_back 194 = .ok (.getfield 52, 3) := by decide +kernel
theorem dX8_back_197 : decode cX8_back 197 = .ok (.iload_n 1, 1) := by decide +kernel
theorem dX8_back_198 : decode cX8_back 198 = .ok (.iaload, 1) := by decide +kernel
theorem dX8_back_199 : decode cX8_back 199 = .ok (.iload_n 3, 1) := by decide +kernel
theorem dX8_back_200 : decode cX8_back 200 = .ok (.invokestatic 93, 3) := by decide +kernel
theorem dX8_back_203 : decode cX8_back 203 = .ok (.ifCond .eq 25, 3) := by decide +kernel
theorem dX8_back_206 : decode cX8_back 206 = .ok (.aload_n 0, 1) := by decide +kernel
theorem dX8_back_207 : decode cX8_back 207 = .ok (.getfield 13, 3) := by decide +kernel
theorem dX8_back_210 : decode cX8_back 210 = .ok (.iload_n 3, 1) := by decide +kernel
theorem dX8_back_211 : decode cX8_back 211 = .ok (.iaload, 1) := by decide +kernel
theorem dX8_back_212 : decode cX8_back 212 = .ok (.aload_n 0, 1) := by decide +kernel
theorem dX8_back_213 : decode cX8_back 213 = .ok (.getfield 9, 3) := by decide +kernel
theorem dX8_back_216 : decode cX8_back 216 = .ok (.iload_n 3, 1) := by decide +kernel
theorem dX8_back_217 : decode cX8_back 217 = .ok (.iaload, 1) := by decide +kernel
theorem dX8_back_218 : decode cX8_back 218 = .ok (.if_icmp .ne 10, 3) := by decide +kernel
theorem dX8_back_221 : decode cX8_back 221 = .ok (.aload_n 0, 1) := by decide +kernel
theorem dX8_back_222 : decode cX8_back 222 = .ok (.getfield 13, 3) := by decide +kernel
theorem dX8_back_225 : decode cX8_back 225 = .ok (.iload_n 3, 1) := by decide +kernel
theorem dX8_back_226 : decode cX8_back 226 = .ok (.iconst (-1), 1) := by decide +kernel
theorem dX8_back_227 : decode cX8_back 227 = .ok (.iastore, 1) := by decide +kernel
theorem dX8_back_228 : decode cX8_back 228 = .ok (.iinc 3 1, 3) := by decide +kernel
theorem dX8_back_231 : decode cX8_back 231 = .ok (.goto (-46), 3) := by decide +kernel
theorem dX8_back_234 : decode cX8_back 234 = .ok (.aload_n 0, 1) := by decide +kernel
theorem dX8_back_235 : decode cX8_back 235 = .ok (.getfield 61, 3) := by decide +kernel
theorem dX8_back_238 : decode cX8_back 238 = .ok (.iload_n 1, 1) := by decide +kernel
theorem dX8_back_239 : decode cX8_back 239 = .ok (.iconst 1, 1) := by decide +kernel
theorem dX8_back_240 : decode cX8_back 240 = .ok (.bastore, 1) := by decide +kernel
theorem dX8_back_241 : decode cX8_back 241 = .ok (.iload_n 1, 1) := by decide +kernel
theorem dX8_back_242 : decode cX8_back 242 = .ok (.ireturn, 1) := by decide +kernel
theorem dX8_isRed_0 : decode cX8_isRed 0 = .ok (.aload_n 0, 1) := by decide +kernel
theorem dX8_isRed_1 : decode cX8_isRed 1 = .ok (.dup, 1) := by decide +kernel
theorem dX8_isRed_2 : decode cX8_isRed 2 = .ok (.getfield 166, 3) := by decide +kernel
theorem dX8_isRed_5 : decode cX8_isRed 5 = .ok (.iconst 1, 1) := by decide +kernel
theorem dX8_isRed_6 : decode cX8_isRed 6 = .ok (.iadd, 1) := by decide +kernel
theorem dX8_isRed_7 : decode cX8_isRed 7 = .ok (.putfield 166, 3) := by decide +kernel
theorem dX8_isRed_10 : decode cX8_isRed 10 = .ok (.aload_n 0, 1) := by decide +kernel
theorem dX8_isRed_11 : decode cX8_isRed 11 = .ok (.iload_n 1, 1) := by decide +kernel
theorem dX8_isRed_12 : decode cX8_isRed 12 = .ok (.invokevirtual 118, 3) := by decide +kernel
theorem dX8_isRed_15 : decode cX8_isRed 15 = .ok (.iconst (-1), 1) := by decide +kernel
theorem dX8_isRed_16 : decode cX8_isRed 16 = .ok (.if_icmp .eq 7, 3) := by decide +kernel
theorem dX8_isRed_19 : decode cX8_isRed 19 = .ok (.iconst 1, 1) := by decide +kernel
theorem dX8_isRed_20 : decode cX8_isRed 20 = .ok (.goto 4, 3) := by decide +kernel
theorem dX8_isRed_23 : decode cX8_isRed 23 = .ok (.iconst 0, 1) := by decide +kernel
theorem dX8_isRed_24 : decode cX8_isRed 24 = .ok (.ireturn, 1) := by decide +kernel
theorem dX8_piece_0 : decode cX8_piece 0 = .ok (.iload_n 1, 1) := by decide +kernel
theorem dX8_piece_1 : decode cX8_piece 1 = .ok (.invokestatic 169, 3) := by decide +kernel
theorem dX8_piece_4 : decode cX8_piece 4 = .ok (.istore 4, 2) := by decide +kernel
theorem dX8_piece_6 : decode cX8_piece 6 = .ok (.iload_n 2, 1) := by decide +kernel
theorem dX8_piece_7 : decode cX8_piece 7 = .ok (.iload 4, 2) := by decide +kernel
theorem dX8_piece_9 : decode cX8_piece 9 = .ok (.iload_n 3, 1) := by decide +kernel
theorem dX8_piece_10 : decode cX8_piece 10 = .ok (.idiv, 1) := by decide +kernel
theorem dX8_piece_11 : decode cX8_piece 11 = .ok (.imul, 1) := by decide +kernel
theorem dX8_piece_12 : decode cX8_piece 12 = .ok (.iload_n 2, 1) := by decide +kernel
theorem dX8_piece_13 : decode cX8_piece 13 = .ok (.iload 4, 2) := by decide +kernel
theorem dX8_piece_15 : decode cX8_piece 15 = .ok (.iload_n 3, 1) := by decide +kernel
theorem dX8_piece_16 : decode cX8_piece 16 = .ok (.irem, 1) := by decide +kernel
theorem dX8_piece_17 : decode cX8_piece 17 = .ok (.invokestatic 174, 3) := by decide +kernel
theorem dX8_piece_20 : decode cX8_piece 20 = .ok (.iadd, 1) := by decide +kernel
theorem dX8_piece_21 : decode cX8_piece 21 = .ok (.istore 5, 2) := by decide +kernel
theorem dX8_piece_23 : decode cX8_piece 23 = .ok (.iload 4, 2) := by decide +kernel
theorem dX8_piece_25 : decode cX8_piece 25 = .ok (.iload_n 3, 1) := by decide +kernel
theorem dX8_piece_26 : decode cX8_piece 26 = .ok (.idiv, 1) := by decide +kernel
theorem dX8_piece_27 : decode cX8_piece 27 = .ok (.iload_n 2, 1) := by decide +kernel
theorem dX8_piece_28 : decode cX8_piece 28 = .ok (.iload 4, 2) := by decide +kernel
theorem dX8_piece_30 : decode cX8_piece 30 = .ok (.iload_n 3, 1) := by decide +kernel
theorem dX8_piece_31 : decode cX8_piece 31 = .ok (.irem, 1) := by decide +kernel
theorem dX8_piece_32 : decode cX8_piece 32 = .ok (.if_icmp .ge 7, 3) := by decide +kernel
theorem dX8_piece_35 : decode cX8_piece 35 = .ok (.iconst 1, 1) := by decide +kernel
theorem dX8_piece_36 : decode cX8_piece 36 = .ok (.goto 4, 3) := by decide +kernel
theorem dX8_piece_39 : decode cX8_piece 39 = .ok (.iconst 0, 1) := by decide +kernel
theorem dX8_piece_40 : decode cX8_piece 40 = .ok (.iadd, 1) := by decide +kernel
theorem dX8_piece_41 : decode cX8_piece 41 = .ok (.istore 6, 2) := by decide +kernel
theorem dX8_piece_43 : decode cX8_piece 43 = .ok (.iconst 0, 1) := by decide +kernel
theorem dX8_piece_44 : decode cX8_piece 44 = .ok (.istore 7, 2) := by decide +kernel
theorem dX8_piece_46 : decode cX8_piece 46 = .ok (.iconst 0, 1) := by decide +kernel
theorem dX8_piece_47 : decode cX8_piece 47 = .ok (.istore 8, 2) := by decide +kernel
theorem dX8_piece_49 : decode cX8_piece 49 = .ok (.iconst 0, 1) := by decide +kernel
theorem dX8_piece_50 : decode cX8_piece 50 = .ok (.istore 9, 2) := by decide +kernel
theorem dX8_piece_52 : decode cX8_piece 52 = .ok (.iload 9, 2) := by decide +kernel
theorem dX8_piece_54 : decode cX8_piece 54 = .ok (.aload_n 0, 1) := by decide +kernel
theorem dX8_piece_55 : decode cX8_piece 55 = .ok (.getfield 75, 3) := by decide +kernel
theorem dX8_piece_58 : decode cX8_piece 58 = .ok (.if_icmp .ge 50, 3) := by decide +kernel
theorem dX8_piece_61 : decode cX8_piece 61 = .ok (.iload_n 1, 1) := by decide +kernel
theorem dX8_piece_62 : decode cX8_piece 62 = .ok (.iload 9, 2) := by decide +kernel
theorem dX8_piece_64 : decode cX8_piece 64 = .ok (.invokestatic 93, 3) := by decide +kernel
theorem dX8_piece_67 : decode cX8_piece 67 = .ok (.ifCond .ne 6, 3) := by decide +kernel
theorem dX8_piece_70 : decode cX8_piece 70 = .ok (.goto 32, 3) := by decide +kernel
theorem dX8_piece_73 : decode cX8_piece 73 = .ok (.iload 8, 2) := by decide +kernel
theorem dX8_piece_75 : decode cX8_piece 75 = .ok (.iload 5, 2) := by decide +kernel
theorem dX8_piece_77 : decode cX8_piece 77 = .ok (.if_icmp .lt 22, 3) := by decide +kernel
theorem dX8_piece_80 : decode cX8_piece 80 = .ok (.iload 8, 2) := by decide +kernel
theorem dX8_piece_82 : decode cX8_piece 82 = .ok (.iload 5, 2) := by decide +kernel
theorem dX8_piece_84 : decode cX8_piece 84 = .ok (.iload 6, 2) := by decide +kernel
theorem dX8_piece_86 : decode cX8_piece 86 = .ok (.iadd, 1) := by decide +kernel
theorem dX8_piece_87 : decode cX8_piece 87 = .ok (.if_icmp .ge 12, 3) := by decide +kernel
theorem dX8_piece_90 : decode cX8_piece 90 = .ok (.iload 7, 2) := by decide +kernel
theorem dX8_piece_92 : decode cX8_piece 92 = .ok (.iconst 1, 1) := by decide +kernel
theorem dX8_piece_93 : decode cX8_piece 93 = .ok (.iload 9, 2) := by decide +kernel
theorem dX8_piece_95 : decode cX8_piece 95 = .ok (.ishl, 1) := by decide +kernel
theorem dX8_piece_96 : decode cX8_piece 96 = .ok (.ior, 1) := by decide +kernel
theorem dX8_piece_97 : decode cX8_piece 97 = .ok (.istore 7, 2) := by decide +kernel
theorem dX8_piece_99 : decode cX8_piece 99 = .ok (.iinc 8 1, 3) := by decide +kernel
theorem dX8_piece_102 : decode cX8_piece 102 = .ok (.iinc 9 1, 3) := by decide +kernel
theorem dX8_piece_105 : decode cX8_piece 105 = .ok (.goto (-53), 3) := by decide +kernel
theorem dX8_piece_108 : decode cX8_piece 108 = .ok (.iload 7, 2) := by decide +kernel
theorem dX8_piece_110 : decode cX8_piece 110 = .ok (.ireturn, 1) := by decide +kernel
theorem dX8_blames_0 : decode cX8_blames 0 = .ok (.aload_n 0, 1) := by decide +kernel
theorem dX8_blames_1 : decode cX8_blames 1 = .ok (.iconst 0, 1) := by decide +kernel
theorem dX8_blames_2 : decode cX8_blames 2 = .ok (.putfield 166, 3) := by decide +kernel
theorem dX8_blames_5 : decode cX8_blames 5 = .ok (.aload_n 0, 1) := by decide +kernel
theorem dX8_blames_6 : decode cX8_blames 6 = .ok (.iconst 0, 1) := by decide +kernel
theorem dX8_blames_7 : decode cX8_blames 7 = .ok (.putfield 179, 3) := by decide +kernel
theorem dX8_blames_10 : decode cX8_blames 10 = .ok (.aload_n 0, 1) := by decide +kernel
theorem dX8_blames_11 : decode cX8_blames 11 = .ok (.iload_n 1, 1) := by decide +kernel
theorem dX8_blames_12 : decode cX8_blames 12 = .ok (.invokevirtual 182, 3) := by decide +kernel
theorem dX8_blames_15 : decode cX8_blames 15 = .ok (.ifCond .ne 4, 3) := by decide +kernel
theorem dX8_blames_18 : decode cX8_blames 18 = .ok (.return_, 1) := by decide +kernel
theorem dX8_blames_19 : decode cX8_blames 19 = .ok (.aload_n 0, 1) := by decide +kernel
theorem dX8_blames_20 : decode cX8_blames 20 = .ok (.iload_n 1, 1) := by decide +kernel
theorem dX8_blames_21 : decode cX8_blames 21 = .ok (.putfield 179, 3) := by decide +kernel
theorem dX8_blames_24 : decode cX8_blames 24 = .ok (.iconst 2, 1) := by decide +kernel
theorem dX8_blames_25 : decode cX8_blames 25 = .ok (.istore_n 2, 1) := by decide +kernel
theorem dX8_blames_26 : decode cX8_blames 26 = .ok (.iconst 1, 1) := by decide +kernel
theorem dX8_blames_27 : decode cX8_blames 27 = .ok (.istore_n 3, 1) := by decide +kernel
theorem dX8_blames_28 : decode cX8_blames 28 = .ok (.iload_n 3, 1) := by decide +kernel
theorem dX8_blames_29 : decode cX8_blames 29 = .ok (.ifCond .eq 127, 3) := by decide +kernel
theorem dX8_blames_32 : decode cX8_blames 32 = .ok (.aload_n 0, 1) := by decide +kernel
theorem dX8_blames_33 : decode cX8_blames 33 = .ok (.getfield 179, 3) := by decide +kernel
theorem dX8_blames_36 : decode cX8_blames 36 = .ok (.invokestatic 169, 3) := by decide +kernel
theorem dX8_blames_39 : decode cX8_blames 39 = .ok (.iconst 1, 1) := by decide +kernel
theorem dX8_blames_40 : decode cX8_blames 40 = .ok (.if_icmp .le 116, 3) := by decide +kernel
theorem dX8_blames_43 : decode cX8_blames 43 = .ok (.iconst (-1), 1) := by decide +kernel
theorem dX8_blames_44 : decode cX8_blames 44 = .ok (.istore 4, 2) := by decide +kernel
theorem dX8_blames_46 : decode cX8_blames 46 = .ok (.iconst 0, 1) := by decide +kernel
theorem dX8_blames_47 : decode cX8_blames 47 = .ok (.istore 5, 2) := by decide +kernel
theorem dX8_blames_49 : decode cX8_blames 49 = .ok (.iload 5, 2) := by decide +kernel
theorem dX8_blames_51 : decode cX8_blames 51 = .ok (.iload_n 2, 1) := by decide +kernel
theorem dX8_blames_52 : decode cX8_blames 52 = .ok (.if_icmp .ge 48, 3) := by decide +kernel
theorem dX8_blames_55 : decode cX8_blames 55 = .ok (.iload 4, 2) := by decide +kernel
theorem dX8_blames_57 : decode cX8_blames 57 = .ok (.iconst (-1), 1) := by decide +kernel
theorem dX8_blames_58 : decode cX8_blames 58 = .ok (.if_icmp .ne 42, 3) := by decide +kernel
theorem dX8_blames_61 : decode cX8_blames 61 = .ok (.aload_n 0, 1) := by decide +kernel
theorem dX8_blames_62 : decode cX8_blames 62 = .ok (.getfield 179, 3) := by decide +kernel
theorem dX8_blames_65 : decode cX8_blames 65 = .ok (.aload_n 0, 1) := by decide +kernel
theorem dX8_blames_66 : decode cX8_blames 66 = .ok (.aload_n 0, 1) := by decide +kernel
theorem dX8_blames_67 : decode cX8_blames 67 = .ok (.getfield 179, 3) := by decide +kernel
theorem dX8_blames_70 : decode cX8_blames 70 = .ok (.iload 5, 2) := by decide +kernel
theorem dX8_blames_72 : decode cX8_blames 72 = .ok (.iload_n 2, 1) := by decide +kernel
theorem dX8_blames_73 : decode cX8_blames 73 = .ok (.invokevirtual 185, 3) := by decide +kernel
theorem dX8_blames_76 : decode cX8_blames 76 = .ok (.iconst (-1), 1) := by decide +kernel
theorem dX8_blames_77 : decode cX8_blames 77 = .ok (.ixor, 1) := by decide +kernel
theorem dX8_blames_78 : decode cX8_blames 78 = .ok (.iand, 1) := by decide +kernel
theorem dX8_blames_79 : decode cX8_blames 79 = .ok (.istore 6, 2) := by decide +kernel
theorem dX8_blames_81 : decode cX8_blames 81 = .ok (.aload_n 0, 1) := by decide +kernel
theorem dX8_blames_82 : decode cX8_blames 82 = .ok (.iload 6, 2) := by decide +kernel
theorem dX8_blames_84 : decode cX8_blames 84 = .ok (.invokevirtual 182, 3) := by decide +kernel
theorem dX8_blames_87 : decode cX8_blames 87 = .ok (.ifCond .eq 7, 3) := by decide +kernel
theorem dX8_blames_90 : decode cX8_blames 90 = .ok (.iload 6, 2) := by decide +kernel
theorem dX8_blames_92 : decode cX8_blames 92 = .ok (.istore 4, 2) := by decide +kernel
theorem dX8_blames_94 : decode cX8_blames 94 = .ok (.iinc 5 1, 3) := by decide +kernel
theorem dX8_blames_97 : decode cX8_blames 97 = .ok (.goto (-48), 3) := by decide +kernel
theorem dX8_blames_100 : decode cX8_blames 100 = .ok (.aload_n 0, 1) := by decide +kernel
theorem dX8_blames_101 : decode cX8_blames 101 = .ok (.getfield 179, 3) := by decide +kernel
theorem dX8_blames_104 : decode cX8_blames 104 = .ok (.invokestatic 169, 3) := by decide +kernel
theorem dX8_blames_107 : decode cX8_blames 107 = .ok (.istore 5, 2) := by decide +kernel
theorem dX8_blames_109 : decode cX8_blames 109 = .ok (.iload 4, 2) := by decide +kernel
theorem dX8_blames_111 : decode cX8_blames 111 = .ok (.iconst (-1), 1) := by decide +kernel
theorem dX8_blames_112 : decode cX8_blames 112 = .ok (.if_icmp .eq 20, 3) := by decide +kernel
theorem dX8_blames_115 : decode cX8_blames 115 = .ok (.aload_n 0, 1) := by decide +kernel
theorem dX8_blames_116 : decode cX8_blames 116 = .ok (.iload 4, 2) := by decide +kernel
theorem dX8_blames_118 : decode cX8_blames 118 = .ok (.putfield 179, 3) := by decide +kernel
theorem dX8_blames_121 : decode cX8_blames 121 = .ok (.iconst 2, 1) := by decide +kernel
theorem dX8_blames_122 : decode cX8_blames 122 = .ok (.iload_n 2, 1) := by decide +kernel
theorem dX8_blames_123 : decode cX8_blames 123 = .ok (.iconst 1, 1) := by decide +kernel
theorem dX8_blames_124 : decode cX8_blames 124 = .ok (.isub, 1) := by decide +kernel
theorem dX8_blames_125 : decode cX8_blames 125 = .ok (.invokestatic 189, 3) := by decide +kernel
theorem dX8_blames_128 : decode cX8_blames 128 = .ok (.istore_n 2, 1) := by decide +kernel
theorem dX8_blames_129 : decode cX8_blames 129 = .ok (.goto 24, 3) := by decide +kernel
theorem dX8_blames_132 : decode cX8_blames 132 = .ok (.iload_n 2, 1) := by decide +kernel
theorem dX8_blames_133 : decode cX8_blames 133 = .ok (.iload 5, 2) := by decide +kernel
theorem dX8_blames_135 : decode cX8_blames 135 = .ok (.if_icmp .ge 7, 3) := by decide +kernel
theorem dX8_blames_138 : decode cX8_blames 138 = .ok (.iconst 1, 1) := by decide +kernel
theorem dX8_blames_139 : decode cX8_blames 139 = .ok (.goto 4, 3) := by decide +kernel
theorem dX8_blames_142 : decode cX8_blames 142 = .ok (.iconst 0, 1) := by decide +kernel
theorem dX8_blames_143 : decode cX8_blames 143 = .ok (.istore_n 3, 1) := by decide +kernel
theorem dX8_blames_144 : decode cX8_blames 144 = .ok (.iconst 2, 1) := by decide +kernel
theorem dX8_blames_145 : decode cX8_blames 145 = .ok (.iload_n 2, 1) := by decide +kernel
theorem dX8_blames_146 : decode cX8_blames 146 = .ok (.imul, 1) := by decide +kernel
theorem dX8_blames_147 : decode cX8_blames 147 = .ok (.iload 5, 2) := by decide +kernel
theorem dX8_blames_149 : decode cX8_blames 149 = .ok (.invokestatic 174, 3) := by decide +kernel
theorem dX8_blames_152 : decode cX8_blames 152 = .ok (.istore_n 2, 1) := by decide +kernel
theorem dX8_blames_153 : decode cX8_blames 153 = .ok (.goto (-125), 3) := by decide +kernel
theorem dX8_blames_156 : decode cX8_blames 156 = .ok (.return_, 1) := by decide +kernel
theorem dX8_blame_0 : decode cX8_blame 0 = .ok (.aload_n 0, 1) := by decide +kernel
theorem dX8_blame_1 : decode cX8_blame 1 = .ok (.iconst 0, 1) := by decide +kernel
theorem dX8_blame_2 : decode cX8_blame 2 = .ok (.putfield 71, 3) := by decide +kernel
theorem dX8_blame_5 : decode cX8_blame 5 = .ok (.aload_n 0, 1) := by decide +kernel
theorem dX8_blame_6 : decode cX8_blame 6 = .ok (.iload_n 1, 1) := by decide +kernel
theorem dX8_blame_7 : decode cX8_blame 7 = .ok (.invokevirtual 103, 3) := by decide +kernel
theorem dX8_blame_10 : decode cX8_blame 10 = .ok (.ifCond .ne 5, 3) := by decide +kernel
theorem dX8_blame_13 : decode cX8_blame 13 = .ok (.iconst (-1), 1) := by decide +kernel
theorem dX8_blame_14 : decode cX8_blame 14 = .ok (.ireturn, 1) := by decide +kernel
theorem dX8_blame_15 : decode cX8_blame 15 = .ok (.aload_n 0, 1) := by decide +kernel
theorem dX8_blame_16 : decode cX8_blame 16 = .ok (.iload_n 1, 1) := by decide +kernel
theorem dX8_blame_17 : decode cX8_blame 17 = .ok (.invokevirtual 192, 3) := by decide +kernel
theorem dX8_blame_20 : decode cX8_blame 20 = .ok (.aload_n 0, 1) := by decide +kernel
theorem dX8_blame_21 : decode cX8_blame 21 = .ok (.getfield 179, 3) := by decide +kernel
theorem dX8_blame_24 : decode cX8_blame 24 = .ok (.ireturn, 1) := by decide +kernel
theorem dX8_runs_0 : decode cX8_runs 0 = .ok (.aload_n 0, 1) := by decide +kernel
theorem dX8_runs_1 : decode cX8_runs 1 = .ok (.iconst 0, 1) := by decide +kernel
theorem dX8_runs_2 : decode cX8_runs 2 = .ok (.putfield 71, 3) := by decide +kernel
theorem dX8_runs_5 : decode cX8_runs 5 = .ok (.aload_n 0, 1) := by decide +kernel
theorem dX8_runs_6 : decode cX8_runs 6 = .ok (.iload_n 1, 1) := by decide +kernel
theorem dX8_runs_7 : decode cX8_runs 7 = .ok (.invokevirtual 103, 3) := by decide +kernel
theorem dX8_runs_10 : decode cX8_runs 10 = .ok (.ifCond .ne 5, 3) := by decide +kernel
theorem dX8_runs_13 : decode cX8_runs 13 = .ok (.iconst (-1), 1) := by decide +kernel
theorem dX8_runs_14 : decode cX8_runs 14 = .ok (.ireturn, 1) := by decide +kernel
theorem dX8_runs_15 : decode cX8_runs 15 = .ok (.aload_n 0, 1) := by decide +kernel
theorem dX8_runs_16 : decode cX8_runs 16 = .ok (.iload_n 1, 1) := by decide +kernel
theorem dX8_runs_17 : decode cX8_runs 17 = .ok (.invokevirtual 192, 3) := by decide +kernel
theorem dX8_runs_20 : decode cX8_runs 20 = .ok (.aload_n 0, 1) := by decide +kernel
theorem dX8_runs_21 : decode cX8_runs 21 = .ok (.getfield 166, 3) := by decide +kernel
theorem dX8_runs_24 : decode cX8_runs 24 = .ok (.ireturn, 1) := by decide +kernel
theorem dX8_told_0 : decode cX8_told 0 = .ok (.aload_n 0, 1) := by decide +kernel
theorem dX8_told_1 : decode cX8_told 1 = .ok (.iconst 0, 1) := by decide +kernel
theorem dX8_told_2 : decode cX8_told 2 = .ok (.putfield 71, 3) := by decide +kernel
theorem dX8_told_5 : decode cX8_told 5 = .ok (.aload_n 0, 1) := by decide +kernel
theorem dX8_told_6 : decode cX8_told 6 = .ok (.iload_n 1, 1) := by decide +kernel
theorem dX8_told_7 : decode cX8_told 7 = .ok (.invokevirtual 86, 3) := by decide +kernel
theorem dX8_told_10 : decode cX8_told 10 = .ok (.ifCond .ne 5, 3) := by decide +kernel
theorem dX8_told_13 : decode cX8_told 13 = .ok (.iconst (-1), 1) := by decide +kernel
theorem dX8_told_14 : decode cX8_told 14 = .ok (.ireturn, 1) := by decide +kernel
theorem dX8_told_15 : decode cX8_told 15 = .ok (.iload_n 2, 1) := by decide +kernel
theorem dX8_told_16 : decode cX8_told 16 = .ok (.tableswitch 99 0 4 #[36, 43, 50, 71, 78], 36) := by decide +kernel
theorem dX8_told_52 : decode cX8_told 52 = .ok (.aload_n 0, 1) := by decide +kernel
theorem dX8_told_53 : decode cX8_told 53 = .ok (.getfield 9, 3) := by decide +kernel
theorem dX8_told_56 : decode cX8_told 56 = .ok (.iload_n 1, 1) := by decide +kernel
theorem dX8_told_57 : decode cX8_told 57 = .ok (.iaload, 1) := by decide +kernel
theorem dX8_told_58 : decode cX8_told 58 = .ok (.ireturn, 1) := by decide +kernel
theorem dX8_told_59 : decode cX8_told 59 = .ok (.aload_n 0, 1) := by decide +kernel
theorem dX8_told_60 : decode cX8_told 60 = .ok (.getfield 13, 3) := by decide +kernel
theorem dX8_told_63 : decode cX8_told 63 = .ok (.iload_n 1, 1) := by decide +kernel
theorem dX8_told_64 : decode cX8_told 64 = .ok (.iaload, 1) := by decide +kernel
theorem dX8_told_65 : decode cX8_told 65 = .ok (.ireturn, 1) := by decide +kernel
theorem dX8_told_66 : decode cX8_told 66 = .ok (.aload_n 0, 1) := by decide +kernel
theorem dX8_told_67 : decode cX8_told 67 = .ok (.getfield 13, 3) := by decide +kernel
theorem dX8_told_70 : decode cX8_told 70 = .ok (.iload_n 1, 1) := by decide +kernel
theorem dX8_told_71 : decode cX8_told 71 = .ok (.iaload, 1) := by decide +kernel
theorem dX8_told_72 : decode cX8_told 72 = .ok (.iconst (-1), 1) := by decide +kernel
theorem dX8_told_73 : decode cX8_told 73 = .ok (.if_icmp .ne 7, 3) := by decide +kernel
theorem dX8_told_76 : decode cX8_told 76 = .ok (.iconst (-1), 1) := by decide +kernel
theorem dX8_told_77 : decode cX8_told 77 = .ok (.goto 9, 3) := by decide +kernel
theorem dX8_told_80 : decode cX8_told 80 = .ok (.aload_n 0, 1) := by decide +kernel
theorem dX8_told_81 : decode cX8_told 81 = .ok (.getfield 16, 3) := by decide +kernel
theorem dX8_told_84 : decode cX8_told 84 = .ok (.iload_n 1, 1) := by decide +kernel
theorem dX8_told_85 : decode cX8_told 85 = .ok (.iaload, 1) := by decide +kernel
theorem dX8_told_86 : decode cX8_told 86 = .ok (.ireturn, 1) := by decide +kernel
theorem dX8_told_87 : decode cX8_told 87 = .ok (.aload_n 0, 1) := by decide +kernel
theorem dX8_told_88 : decode cX8_told 88 = .ok (.getfield 19, 3) := by decide +kernel
theorem dX8_told_91 : decode cX8_told 91 = .ok (.iload_n 1, 1) := by decide +kernel
theorem dX8_told_92 : decode cX8_told 92 = .ok (.iaload, 1) := by decide +kernel
theorem dX8_told_93 : decode cX8_told 93 = .ok (.ireturn, 1) := by decide +kernel
theorem dX8_told_94 : decode cX8_told 94 = .ok (.aload_n 0, 1) := by decide +kernel
theorem dX8_told_95 : decode cX8_told 95 = .ok (.getfield 19, 3) := by decide +kernel
theorem dX8_told_98 : decode cX8_told 98 = .ok (.iload_n 1, 1) := by decide +kernel
theorem dX8_told_99 : decode cX8_told 99 = .ok (.iaload, 1) := by decide +kernel
theorem dX8_told_100 : decode cX8_told 100 = .ok (.iconst (-1), 1) := by decide +kernel
theorem dX8_told_101 : decode cX8_told 101 = .ok (.if_icmp .ne 7, 3) := by decide +kernel
theorem dX8_told_104 : decode cX8_told 104 = .ok (.iconst (-1), 1) := by decide +kernel
theorem dX8_told_105 : decode cX8_told 105 = .ok (.goto 9, 3) := by decide +kernel
theorem dX8_told_108 : decode cX8_told 108 = .ok (.aload_n 0, 1) := by decide +kernel
theorem dX8_told_109 : decode cX8_told 109 = .ok (.getfield 22, 3) := by decide +kernel
theorem dX8_told_112 : decode cX8_told 112 = .ok (.iload_n 1, 1) := by decide +kernel
theorem dX8_told_113 : decode cX8_told 113 = .ok (.iaload, 1) := by decide +kernel
theorem dX8_told_114 : decode cX8_told 114 = .ok (.ireturn, 1) := by decide +kernel
theorem dX8_told_115 : decode cX8_told 115 = .ok (.iconst (-1), 1) := by decide +kernel
theorem dX8_told_116 : decode cX8_told 116 = .ok (.ireturn, 1) := by decide +kernel
theorem dX8_was_0 : decode cX8_was 0 = .ok (.aload_n 0, 1) := by decide +kernel
theorem dX8_was_1 : decode cX8_was 1 = .ok (.iload_n 1, 1) := by decide +kernel
theorem dX8_was_2 : decode cX8_was 2 = .ok (.ifCond .lt 25, 3) := by decide +kernel
theorem dX8_was_5 : decode cX8_was 5 = .ok (.iload_n 1, 1) := by decide +kernel
theorem dX8_was_6 : decode cX8_was 6 = .ok (.aload_n 0, 1) := by decide +kernel
theorem dX8_was_7 : decode cX8_was 7 = .ok (.getfield 149, 3) := by decide +kernel
theorem dX8_was_10 : decode cX8_was 10 = .ok (.if_icmp .ge 17, 3) := by decide +kernel
theorem dX8_was_13 : decode cX8_was 13 = .ok (.iload_n 2, 1) := by decide +kernel
theorem dX8_was_14 : decode cX8_was 14 = .ok (.ifCond .lt 13, 3) := by decide +kernel
theorem dX8_was_17 : decode cX8_was 17 = .ok (.iload_n 2, 1) := by decide +kernel
theorem dX8_was_18 : decode cX8_was 18 = .ok (.aload_n 0, 1) := by decide +kernel
theorem dX8_was_19 : decode cX8_was 19 = .ok (.getfield 49, 3) := by decide +kernel
theorem dX8_was_22 : decode cX8_was 22 = .ok (.iload_n 1, 1) := by decide +kernel
theorem dX8_was_23 : decode cX8_was 23 = .ok (.iaload, 1) := by decide +kernel
theorem dX8_was_24 : decode cX8_was 24 = .ok (.if_icmp .lt 7, 3) := by decide +kernel
theorem dX8_was_27 : decode cX8_was 27 = .ok (.iconst 1, 1) := by decide +kernel
theorem dX8_was_28 : decode cX8_was 28 = .ok (.goto 4, 3) := by decide +kernel
theorem dX8_was_31 : decode cX8_was 31 = .ok (.iconst 0, 1) := by decide +kernel
theorem dX8_was_32 : decode cX8_was 32 = .ok (.putfield 71, 3) := by decide +kernel
theorem dX8_was_35 : decode cX8_was 35 = .ok (.aload_n 0, 1) := by decide +kernel
theorem dX8_was_36 : decode cX8_was 36 = .ok (.getfield 71, 3) := by decide +kernel
theorem dX8_was_39 : decode cX8_was 39 = .ok (.ifCond .le 7, 3) := by decide +kernel
theorem dX8_was_42 : decode cX8_was 42 = .ok (.iconst 0, 1) := by decide +kernel
theorem dX8_was_43 : decode cX8_was 43 = .ok (.goto 32, 3) := by decide +kernel
theorem dX8_was_46 : decode cX8_was 46 = .ok (.iload_n 3, 1) := by decide +kernel
theorem dX8_was_47 : decode cX8_was 47 = .ok (.ifCond .eq 17, 3) := by decide +kernel
theorem dX8_was_50 : decode cX8_was 50 = .ok (.aload_n 0, 1) := by decide +kernel
theorem dX8_was_51 : decode cX8_was 51 = .ok (.getfield 58, 3) := by decide +kernel
theorem dX8_was_54 : decode cX8_was 54 = .ok (.bipush 10, 2) := by decide +kernel
theorem dX8_was_56 : decode cX8_was 56 = .ok (.iload_n 1, 1) := by decide +kernel
theorem dX8_was_57 : decode cX8_was 57 = .ok (.imul, 1) := by decide +kernel
theorem dX8_was_58 : decode cX8_was 58 = .ok (.iload_n 2, 1) := by decide +kernel
theorem dX8_was_59 : decode cX8_was 59 = .ok (.iadd, 1) := by decide +kernel
theorem dX8_was_60 : decode cX8_was 60 = .ok (.iaload, 1) := by decide +kernel
theorem dX8_was_61 : decode cX8_was 61 = .ok (.goto 14, 3) := by decide +kernel
theorem dX8_was_64 : decode cX8_was 64 = .ok (.aload_n 0, 1) := by decide +kernel
theorem dX8_was_65 : decode cX8_was 65 = .ok (.getfield 55, 3) := by decide +kernel
theorem dX8_was_68 : decode cX8_was 68 = .ok (.bipush 10, 2) := by decide +kernel
theorem dX8_was_70 : decode cX8_was 70 = .ok (.iload_n 1, 1) := by decide +kernel
theorem dX8_was_71 : decode cX8_was 71 = .ok (.imul, 1) := by decide +kernel
theorem dX8_was_72 : decode cX8_was 72 = .ok (.iload_n 2, 1) := by decide +kernel
theorem dX8_was_73 : decode cX8_was 73 = .ok (.iadd, 1) := by decide +kernel
theorem dX8_was_74 : decode cX8_was 74 = .ok (.iaload, 1) := by decide +kernel
theorem dX8_was_75 : decode cX8_was 75 = .ok (.ireturn, 1) := by decide +kernel
theorem dX8_brought_0 : decode cX8_brought 0 = .ok (.aload_n 0, 1) := by decide +kernel
theorem dX8_brought_1 : decode cX8_brought 1 = .ok (.iconst 0, 1) := by decide +kernel
theorem dX8_brought_2 : decode cX8_brought 2 = .ok (.putfield 71, 3) := by decide +kernel
theorem dX8_brought_5 : decode cX8_brought 5 = .ok (.iload_n 1, 1) := by decide +kernel
theorem dX8_brought_6 : decode cX8_brought 6 = .ok (.ifCond .lt 20, 3) := by decide +kernel
theorem dX8_brought_9 : decode cX8_brought 9 = .ok (.iload_n 1, 1) := by decide +kernel
theorem dX8_brought_10 : decode cX8_brought 10 = .ok (.aload_n 0, 1) := by decide +kernel
theorem dX8_brought_11 : decode cX8_brought 11 = .ok (.getfield 149, 3) := by decide +kernel
theorem dX8_brought_14 : decode cX8_brought 14 = .ok (.if_icmp .ge 12, 3) := by decide +kernel
theorem dX8_brought_17 : decode cX8_brought 17 = .ok (.aload_n 0, 1) := by decide +kernel
theorem dX8_brought_18 : decode cX8_brought 18 = .ok (.getfield 52, 3) := by decide +kernel
theorem dX8_brought_21 : decode cX8_brought 21 = .ok (.iload_n 1, 1) := by decide +kernel
theorem dX8_brought_22 : decode cX8_brought 22 = .ok (.iaload, 1) := by decide +kernel
theorem dX8_brought_23 : decode cX8_brought 23 = .ok (.goto 4, 3) := by decide +kernel
theorem dX8_brought_26 : decode cX8_brought 26 = .ok (.iconst (-1), 1) := by decide +kernel
theorem dX8_brought_27 : decode cX8_brought 27 = .ok (.ireturn, 1) := by decide +kernel
theorem dX8_count_0 : decode cX8_count 0 = .ok (.aload_n 0, 1) := by decide +kernel
theorem dX8_count_1 : decode cX8_count 1 = .ok (.iconst 0, 1) := by decide +kernel
theorem dX8_count_2 : decode cX8_count 2 = .ok (.putfield 71, 3) := by decide +kernel
theorem dX8_count_5 : decode cX8_count 5 = .ok (.iconst 0, 1) := by decide +kernel
theorem dX8_count_6 : decode cX8_count 6 = .ok (.istore_n 2, 1) := by decide +kernel
theorem dX8_count_7 : decode cX8_count 7 = .ok (.iload_n 1, 1) := by decide +kernel
theorem dX8_count_8 : decode cX8_count 8 = .ok (.tableswitch 148 0 8 #[52, 57, 62, 67, 72, 107, 115, 120, 133], 52) := by decide +kernel
theorem dX8_count_60 : decode cX8_count 60 = .ok (.aload_n 0, 1) := by decide +kernel
theorem dX8_count_61 : decode cX8_count 61 = .ok (.getfield 75, 3) := by decide +kernel
theorem dX8_count_64 : decode cX8_count 64 = .ok (.ireturn, 1) := by decide +kernel
theorem dX8_count_65 : decode cX8_count 65 = .ok (.aload_n 0, 1) := by decide +kernel
theorem dX8_count_66 : decode cX8_count 66 = .ok (.getfield 97, 3) := by decide +kernel
theorem dX8_count_69 : decode cX8_count 69 = .ok (.ireturn, 1) := by decide +kernel
theorem dX8_count_70 : decode cX8_count 70 = .ok (.aload_n 0, 1) := by decide +kernel
theorem dX8_count_71 : decode cX8_count 71 = .ok (.getfield 100, 3) := by decide +kernel
theorem dX8_count_74 : decode cX8_count 74 = .ok (.ireturn, 1) := by decide +kernel
theorem dX8_count_75 : decode cX8_count 75 = .ok (.aload_n 0, 1) := by decide +kernel
theorem dX8_count_76 : decode cX8_count 76 = .ok (.getfield 149, 3) := by decide +kernel
theorem dX8_count_79 : decode cX8_count 79 = .ok (.ireturn, 1) := by decide +kernel
theorem dX8_count_80 : decode cX8_count 80 = .ok (.iconst 0, 1) := by decide +kernel
theorem dX8_count_81 : decode cX8_count 81 = .ok (.istore_n 3, 1) := by decide +kernel
theorem dX8_count_82 : decode cX8_count 82 = .ok (.iload_n 3, 1) := by decide +kernel
theorem dX8_count_83 : decode cX8_count 83 = .ok (.aload_n 0, 1) := by decide +kernel
theorem dX8_count_84 : decode cX8_count 84 = .ok (.getfield 149, 3) := by decide +kernel
theorem dX8_count_87 : decode cX8_count 87 = .ok (.if_icmp .ge 26, 3) := by decide +kernel
theorem dX8_count_90 : decode cX8_count 90 = .ok (.iload_n 2, 1) := by decide +kernel
theorem dX8_count_91 : decode cX8_count 91 = .ok (.aload_n 0, 1) := by decide +kernel
theorem dX8_count_92 : decode cX8_count 92 = .ok (.getfield 61, 3) := by decide +kernel
theorem dX8_count_95 : decode cX8_count 95 = .ok (.iload_n 3, 1) := by decide +kernel
theorem dX8_count_96 : decode cX8_count 96 = .ok (.baload, 1) := by decide +kernel
theorem dX8_count_97 : decode cX8_count 97 = .ok (.ifCond .eq 7, 3) := by decide +kernel
theorem dX8_count_100 : decode cX8_count 100 = .ok (.iconst 0, 1) := by decide +kernel
theorem dX8_count_101 : decode cX8_count 101 = .ok (.goto 4, 3) := by decide +kernel
theorem dX8_count_104 : decode cX8_count 104 = .ok (.iconst 1, 1) := by decide +kernel
theorem dX8_count_105 : decode cX8_count 105 = .ok (.iadd, 1) := by decide +kernel
theorem dX8_count_106 : decode cX8_count 106 = .ok (.istore_n 2, 1) := by decide +kernel
theorem dX8_count_107 : decode cX8_count 107 = .ok (.iinc 3 1, 3) := by decide +kernel
theorem dX8_count_110 : decode cX8_count 110 = .ok (.goto (-28), 3) := by decide +kernel
theorem dX8_count_113 : decode cX8_count 113 = .ok (.iload_n 2, 1) := by decide +kernel
theorem dX8_count_114 : decode cX8_count 114 = .ok (.ireturn, 1) := by decide +kernel
theorem dX8_count_115 : decode cX8_count 115 = .ok (.aload_n 0, 1) := by decide +kernel
theorem dX8_count_116 : decode cX8_count 116 = .ok (.invokevirtual 110, 3) := by decide +kernel
theorem dX8_count_119 : decode cX8_count 119 = .ok (.invokestatic 169, 3) := by decide +kernel
theorem dX8_count_122 : decode cX8_count 122 = .ok (.ireturn, 1) := by decide +kernel
theorem dX8_count_123 : decode cX8_count 123 = .ok (.aload_n 0, 1) := by decide +kernel
theorem dX8_count_124 : decode cX8_count 124 = .ok (.getfield 155, 3) := by decide +kernel
theorem dX8_count_127 : decode cX8_count 127 = .ok (.ireturn, 1) := by decide +kernel
theorem dX8_count_128 : decode cX8_count 128 = .ok (.aload_n 0, 1) := by decide +kernel
theorem dX8_count_129 : decode cX8_count 129 = .ok (.getfield 78, 3) := by decide +kernel
theorem dX8_count_132 : decode cX8_count 132 = .ok (.ifCond .eq 7, 3) := by decide +kernel
theorem dX8_count_135 : decode cX8_count 135 = .ok (.iconst 1, 1) := by decide +kernel
theorem dX8_count_136 : decode cX8_count 136 = .ok (.goto 4, 3) := by decide +kernel
theorem dX8_count_139 : decode cX8_count 139 = .ok (.iconst 0, 1) := by decide +kernel
theorem dX8_count_140 : decode cX8_count 140 = .ok (.ireturn, 1) := by decide +kernel
theorem dX8_count_141 : decode cX8_count 141 = .ok (.aload_n 0, 1) := by decide +kernel
theorem dX8_count_142 : decode cX8_count 142 = .ok (.iconst 0, 1) := by decide +kernel
theorem dX8_count_143 : decode cX8_count 143 = .ok (.invokevirtual 114, 3) := by decide +kernel
theorem dX8_count_146 : decode cX8_count 146 = .ok (.iconst (-1), 1) := by decide +kernel
theorem dX8_count_147 : decode cX8_count 147 = .ok (.if_icmp .ne 7, 3) := by decide +kernel
theorem dX8_count_150 : decode cX8_count 150 = .ok (.iconst 1, 1) := by decide +kernel
theorem dX8_count_151 : decode cX8_count 151 = .ok (.goto 4, 3) := by decide +kernel
theorem dX8_count_154 : decode cX8_count 154 = .ok (.iconst 0, 1) := by decide +kernel
theorem dX8_count_155 : decode cX8_count 155 = .ok (.ireturn, 1) := by decide +kernel
theorem dX8_count_156 : decode cX8_count 156 = .ok (.iconst (-1), 1) := by decide +kernel
theorem dX8_count_157 : decode cX8_count 157 = .ok (.ireturn, 1) := by decide +kernel
end
section
theorem dL_was_0 : decode cL_was 0 = .ok (.aload 4, 2) := by decide +kernel
theorem dL_was_2 : decode cL_was 2 = .ok (.iconst 0, 1) := by decide +kernel
theorem dL_was_3 : decode cL_was 3 = .ok (.aload_n 0, 1) := by decide +kernel
theorem dL_was_4 : decode cL_was 4 = .ok (.iload_n 1, 1) := by decide +kernel
theorem dL_was_5 : decode cL_was 5 = .ok (.iload_n 2, 1) := by decide +kernel
theorem dL_was_6 : decode cL_was 6 = .ok (.iload_n 3, 1) := by decide +kernel
theorem dL_was_7 : decode cL_was 7 = .ok (.invokevirtual 7, 3) := by decide +kernel
theorem dL_was_10 : decode cL_was 10 = .ok (.i2l, 1) := by decide +kernel
theorem dL_was_11 : decode cL_was 11 = .ok (.lastore, 1) := by decide +kernel
theorem dL_was_12 : decode cL_was 12 = .ok (.goto 7, 3) := by decide +kernel
theorem dL_was_15 : decode cL_was 15 = .ok (.astore 5, 2) := by decide +kernel
theorem dL_was_17 : decode cL_was 17 = .ok (.iconst 1, 1) := by decide +kernel
theorem dL_was_18 : decode cL_was 18 = .ok (.ireturn, 1) := by decide +kernel
theorem dL_was_19 : decode cL_was 19 = .ok (.iconst 0, 1) := by decide +kernel
theorem dL_was_20 : decode cL_was 20 = .ok (.ireturn, 1) := by decide +kernel
theorem dL_law_0 : decode cL_law 0 = .ok (.new 8, 3) := by decide +kernel
theorem dL_law_3 : decode cL_law 3 = .ok (.dup, 1) := by decide +kernel
theorem dL_law_4 : decode cL_law 4 = .ok (.invokespecial 15, 3) := by decide +kernel
theorem dL_law_7 : decode cL_law 7 = .ok (.astore_n 1, 1) := by decide +kernel
theorem dL_law_8 : decode cL_law 8 = .ok (.new 16, 3) := by decide +kernel
theorem dL_law_11 : decode cL_law 11 = .ok (.dup, 1) := by decide +kernel
theorem dL_law_12 : decode cL_law 12 = .ok (.invokespecial 18, 3) := by decide +kernel
theorem dL_law_15 : decode cL_law 15 = .ok (.astore_n 2, 1) := by decide +kernel
theorem dL_law_16 : decode cL_law 16 = .ok (.iconst 1, 1) := by decide +kernel
theorem dL_law_17 : decode cL_law 17 = .ok (.newarray .long, 2) := by decide +kernel
theorem dL_law_19 : decode cL_law 19 = .ok (.astore_n 3, 1) := by decide +kernel
theorem dL_law_20 : decode cL_law 20 = .ok (.iconst 0, 1) := by decide +kernel
theorem dL_law_21 : decode cL_law 21 = .ok (.istore 4, 2) := by decide +kernel
theorem dL_law_23 : decode cL_law 23 = .ok (.iload 4, 2) := by decide +kernel
theorem dL_law_25 : decode cL_law 25 = .ok (.aload_n 0, 1) := by decide +kernel
theorem dL_law_26 : decode cL_law 26 = .ok (.arraylength, 1) := by decide +kernel
theorem dL_law_27 : decode cL_law 27 = .ok (.bipush 6, 2) := by decide +kernel
theorem dL_law_29 : decode cL_law 29 = .ok (.isub, 1) := by decide +kernel
theorem dL_law_30 : decode cL_law 30 = .ok (.if_icmp .gt 899, 3) := by decide +kernel
theorem dL_law_33 : decode cL_law 33 = .ok (.aload_n 0, 1) := by decide +kernel
theorem dL_law_34 : decode cL_law 34 = .ok (.iload 4, 2) := by decide +kernel
theorem dL_law_36 : decode cL_law 36 = .ok (.iaload, 1) := by decide +kernel
theorem dL_law_37 : decode cL_law 37 = .ok (.bipush 31, 2) := by decide +kernel
theorem dL_law_39 : decode cL_law 39 = .ok (.iand, 1) := by decide +kernel
theorem dL_law_40 : decode cL_law 40 = .ok (.tableswitch 883 0 23 #[112, 137, 186, 211, 284, 309, 334, 359, 372, 385, 398, 423, 472, 521, 546, 559, 572, 637, 650, 675, 700, 737, 833, 858], 112) := by decide +kernel
theorem dL_law_152 : decode cL_law 152 = .ok (.aload_n 1, 1) := by decide +kernel
theorem dL_law_153 : decode cL_law 153 = .ok (.aload_n 0, 1) := by decide +kernel
theorem dL_law_154 : decode cL_law 154 = .ok (.iload 4, 2) := by decide +kernel
theorem dL_law_156 : decode cL_law 156 = .ok (.iconst 1, 1) := by decide +kernel
theorem dL_law_157 : decode cL_law 157 = .ok (.iadd, 1) := by decide +kernel
theorem dL_law_158 : decode cL_law 158 = .ok (.iaload, 1) := by decide +kernel
theorem dL_law_159 : decode cL_law 159 = .ok (.invokevirtual 19, 3) := by decide +kernel
theorem dL_law_162 : decode cL_law 162 = .ok (.aload_n 2, 1) := by decide +kernel
theorem dL_law_163 : decode cL_law 163 = .ok (.aload_n 0, 1) := by decide +kernel
theorem dL_law_164 : decode cL_law 164 = .ok (.iload 4, 2) := by decide +kernel
theorem dL_law_166 : decode cL_law 166 = .ok (.iconst 1, 1) := by decide +kernel
theorem dL_law_167 : decode cL_law 167 = .ok (.iadd, 1) := by decide +kernel
theorem dL_law_168 : decode cL_law 168 = .ok (.iaload, 1) := by decide +kernel
theorem dL_law_169 : decode cL_law 169 = .ok (.invokevirtual 23, 3) := by decide +kernel
theorem dL_law_172 : decode cL_law 172 = .ok (.if_icmp .eq 751, 3) := by decide +kernel
theorem dL_law_175 : decode cL_law 175 = .ok (.iconst 0, 1) := by decide +kernel
theorem dL_law_176 : decode cL_law 176 = .ok (.ireturn, 1) := by decide +kernel
theorem dL_law_177 : decode cL_law 177 = .ok (.aload_n 1, 1) := by decide +kernel
theorem dL_law_178 : decode cL_law 178 = .ok (.aload_n 0, 1) := by decide +kernel
theorem dL_law_179 : decode cL_law 179 = .ok (.iload 4, 2) := by decide +kernel
theorem dL_law_181 : decode cL_law 181 = .ok (.iconst 1, 1) := by decide +kernel
theorem dL_law_182 : decode cL_law 182 = .ok (.iadd, 1) := by decide +kernel
theorem dL_law_183 : decode cL_law 183 = .ok (.iaload, 1) := by decide +kernel
theorem dL_law_184 : decode cL_law 184 = .ok (.aload_n 0, 1) := by decide +kernel
theorem dL_law_185 : decode cL_law 185 = .ok (.iload 4, 2) := by decide +kernel
theorem dL_law_187 : decode cL_law 187 = .ok (.iconst 2, 1) := by decide +kernel
theorem dL_law_188 : decode cL_law 188 = .ok (.iadd, 1) := by decide +kernel
theorem dL_law_189 : decode cL_law 189 = .ok (.iaload, 1) := by decide +kernel
theorem dL_law_190 : decode cL_law 190 = .ok (.aload_n 0, 1) := by decide +kernel
theorem dL_law_191 : decode cL_law 191 = .ok (.iload 4, 2) := by decide +kernel
theorem dL_law_193 : decode cL_law 193 = .ok (.iconst 3, 1) := by decide +kernel
theorem dL_law_194 : decode cL_law 194 = .ok (.iadd, 1) := by decide +kernel
theorem dL_law_195 : decode cL_law 195 = .ok (.iaload, 1) := by decide +kernel
theorem dL_law_196 : decode cL_law 196 = .ok (.invokevirtual 24, 3) := by decide +kernel
theorem dL_law_199 : decode cL_law 199 = .ok (.aload_n 2, 1) := by decide +kernel
theorem dL_law_200 : decode cL_law 200 = .ok (.aload_n 0, 1) := by decide +kernel
theorem dL_law_201 : decode cL_law 201 = .ok (.iload 4, 2) := by decide +kernel
theorem dL_law_203 : decode cL_law 203 = .ok (.iconst 1, 1) := by decide +kernel
theorem dL_law_204 : decode cL_law 204 = .ok (.iadd, 1) := by decide +kernel
theorem dL_law_205 : decode cL_law 205 = .ok (.iaload, 1) := by decide +kernel
theorem dL_law_206 : decode cL_law 206 = .ok (.aload_n 0, 1) := by decide +kernel
theorem dL_law_207 : decode cL_law 207 = .ok (.iload 4, 2) := by decide +kernel
theorem dL_law_209 : decode cL_law 209 = .ok (.iconst 2, 1) := by decide +kernel
theorem dL_law_210 : decode cL_law 210 = .ok (.iadd, 1) := by decide +kernel
theorem dL_law_211 : decode cL_law 211 = .ok (.iaload, 1) := by decide +kernel
theorem dL_law_212 : decode cL_law 212 = .ok (.aload_n 0, 1) := by decide +kernel
theorem dL_law_213 : decode cL_law 213 = .ok (.iload 4, 2) := by decide +kernel
theorem dL_law_215 : decode cL_law 215 = .ok (.iconst 3, 1) := by decide +kernel
theorem dL_law_216 : decode cL_law 216 = .ok (.iadd, 1) := by decide +kernel
theorem dL_law_217 : decode cL_law 217 = .ok (.iaload, 1) := by decide +kernel
theorem dL_law_218 : decode cL_law 218 = .ok (.invokevirtual 28, 3) := by decide +kernel
theorem dL_law_221 : decode cL_law 221 = .ok (.if_icmp .eq 702, 3) := by decide +kernel
theorem dL_law_224 : decode cL_law 224 = .ok (.iconst 0, 1) := by decide +kernel
theorem dL_law_225 : decode cL_law 225 = .ok (.ireturn, 1) := by decide +kernel
theorem dL_law_226 : decode cL_law 226 = .ok (.aload_n 1, 1) := by decide +kernel
theorem dL_law_227 : decode cL_law 227 = .ok (.aload_n 0, 1) := by decide +kernel
theorem dL_law_228 : decode cL_law 228 = .ok (.iload 4, 2) := by decide +kernel
theorem dL_law_230 : decode cL_law 230 = .ok (.iconst 1, 1) := by decide +kernel
theorem dL_law_231 : decode cL_law 231 = .ok (.iadd, 1) := by decide +kernel
theorem dL_law_232 : decode cL_law 232 = .ok (.iaload, 1) := by decide +kernel
theorem dL_law_233 : decode cL_law 233 = .ok (.invokevirtual 29, 3) := by decide +kernel
theorem dL_law_236 : decode cL_law 236 = .ok (.aload_n 2, 1) := by decide +kernel
theorem dL_law_237 : decode cL_law 237 = .ok (.aload_n 0, 1) := by decide +kernel
theorem dL_law_238 : decode cL_law 238 = .ok (.iload 4, 2) := by decide +kernel
theorem dL_law_240 : decode cL_law 240 = .ok (.iconst 1, 1) := by decide +kernel
theorem dL_law_241 : decode cL_law 241 = .ok (.iadd, 1) := by decide +kernel
theorem dL_law_242 : decode cL_law 242 = .ok (.iaload, 1) := by decide +kernel
theorem dL_law_243 : decode cL_law 243 = .ok (.invokevirtual 33, 3) := by decide +kernel
theorem dL_law_246 : decode cL_law 246 = .ok (.if_icmp .eq 677, 3) := by decide +kernel
theorem dL_law_249 : decode cL_law 249 = .ok (.iconst 0, 1) := by decide +kernel
theorem dL_law_250 : decode cL_law 250 = .ok (.ireturn, 1) := by decide +kernel
theorem dL_law_251 : decode cL_law 251 = .ok (.aload_n 1, 1) := by decide +kernel
theorem dL_law_252 : decode cL_law 252 = .ok (.aload_n 0, 1) := by decide +kernel
theorem dL_law_253 : decode cL_law 253 = .ok (.iload 4, 2) := by decide +kernel
theorem dL_law_255 : decode cL_law 255 = .ok (.iconst 1, 1) := by decide +kernel
theorem dL_law_256 : decode cL_law 256 = .ok (.iadd, 1) := by decide +kernel
theorem dL_law_257 : decode cL_law 257 = .ok (.iaload, 1) := by decide +kernel
theorem dL_law_258 : decode cL_law 258 = .ok (.aload_n 0, 1) := by decide +kernel
theorem dL_law_259 : decode cL_law 259 = .ok (.iload 4, 2) := by decide +kernel
theorem dL_law_261 : decode cL_law 261 = .ok (.iconst 2, 1) := by decide +kernel
theorem dL_law_262 : decode cL_law 262 = .ok (.iadd, 1) := by decide +kernel
theorem dL_law_263 : decode cL_law 263 = .ok (.iaload, 1) := by decide +kernel
theorem dL_law_264 : decode cL_law 264 = .ok (.aload_n 0, 1) := by decide +kernel
theorem dL_law_265 : decode cL_law 265 = .ok (.iload 4, 2) := by decide +kernel
theorem dL_law_267 : decode cL_law 267 = .ok (.iconst 3, 1) := by decide +kernel
theorem dL_law_268 : decode cL_law 268 = .ok (.iadd, 1) := by decide +kernel
theorem dL_law_269 : decode cL_law 269 = .ok (.iaload, 1) := by decide +kernel
theorem dL_law_270 : decode cL_law 270 = .ok (.aload_n 0, 1) := by decide +kernel
theorem dL_law_271 : decode cL_law 271 = .ok (.iload 4, 2) := by decide +kernel
theorem dL_law_273 : decode cL_law 273 = .ok (.iconst 4, 1) := by decide +kernel
theorem dL_law_274 : decode cL_law 274 = .ok (.iadd, 1) := by decide +kernel
theorem dL_law_275 : decode cL_law 275 = .ok (.iaload, 1) := by decide +kernel
theorem dL_law_276 : decode cL_law 276 = .ok (.aload_n 0, 1) := by decide +kernel
theorem dL_law_277 : decode cL_law 277 = .ok (.iload 4, 2) := by decide +kernel
theorem dL_law_279 : decode cL_law 279 = .ok (.iconst 5, 1) := by decide +kernel
theorem dL_law_280 : decode cL_law 280 = .ok (.iadd, 1) := by decide +kernel
theorem dL_law_281 : decode cL_law 281 = .ok (.iaload, 1) := by decide +kernel
theorem dL_law_282 : decode cL_law 282 = .ok (.invokevirtual 34, 3) := by decide +kernel
theorem dL_law_285 : decode cL_law 285 = .ok (.aload_n 2, 1) := by decide +kernel
theorem dL_law_286 : decode cL_law 286 = .ok (.aload_n 0, 1) := by decide +kernel
theorem dL_law_287 : decode cL_law 287 = .ok (.iload 4, 2) := by decide +kernel
theorem dL_law_289 : decode cL_law 289 = .ok (.iconst 1, 1) := by decide +kernel
theorem dL_law_290 : decode cL_law 290 = .ok (.iadd, 1) := by decide +kernel
theorem dL_law_291 : decode cL_law 291 = .ok (.iaload, 1) := by decide +kernel
end
section
theorem dL_law_292 : decode cL_law 292 = .ok (.aload_n 0, 1) := by decide +kernel
theorem dL_law_293 : decode cL_law 293 = .ok (.iload 4, 2) := by decide +kernel
theorem dL_law_295 : decode cL_law 295 = .ok (.iconst 2, 1) := by decide +kernel
theorem dL_law_296 : decode cL_law 296 = .ok (.iadd, 1) := by decide +kernel
theorem dL_law_297 : decode cL_law 297 = .ok (.iaload, 1) := by decide +kernel
theorem dL_law_298 : decode cL_law 298 = .ok (.aload_n 0, 1) := by decide +kernel
theorem dL_law_299 : decode cL_law 299 = .ok (.iload 4, 2) := by decide +kernel
theorem dL_law_301 : decode cL_law 301 = .ok (.iconst 3, 1) := by decide +kernel
theorem dL_law_302 : decode cL_law 302 = .ok (.iadd, 1) := by decide +kernel
theorem dL_law_303 : decode cL_law 303 = .ok (.iaload, 1) := by decide +kernel
theorem dL_law_304 : decode cL_law 304 = .ok (.aload_n 0, 1) := by decide +kernel
theorem dL_law_305 : decode cL_law 305 = .ok (.iload 4, 2) := by decide +kernel
theorem dL_law_307 : decode cL_law 307 = .ok (.iconst 4, 1) := by decide +kernel
theorem dL_law_308 : decode cL_law 308 = .ok (.iadd, 1) := by decide +kernel
theorem dL_law_309 : decode cL_law 309 = .ok (.iaload, 1) := by decide +kernel
theorem dL_law_310 : decode cL_law 310 = .ok (.aload_n 0, 1) := by decide +kernel
theorem dL_law_311 : decode cL_law 311 = .ok (.iload 4, 2) := by decide +kernel
theorem dL_law_313 : decode cL_law 313 = .ok (.iconst 5, 1) := by decide +kernel
theorem dL_law_314 : decode cL_law 314 = .ok (.iadd, 1) := by decide +kernel
theorem dL_law_315 : decode cL_law 315 = .ok (.iaload, 1) := by decide +kernel
theorem dL_law_316 : decode cL_law 316 = .ok (.invokevirtual 38, 3) := by decide +kernel
theorem dL_law_319 : decode cL_law 319 = .ok (.if_icmp .eq 604, 3) := by decide +kernel
theorem dL_law_322 : decode cL_law 322 = .ok (.iconst 0, 1) := by decide +kernel
theorem dL_law_323 : decode cL_law 323 = .ok (.ireturn, 1) := by decide +kernel
theorem dL_law_324 : decode cL_law 324 = .ok (.aload_n 1, 1) := by decide +kernel
theorem dL_law_325 : decode cL_law 325 = .ok (.aload_n 0, 1) := by decide +kernel
theorem dL_law_326 : decode cL_law 326 = .ok (.iload 4, 2) := by decide +kernel
theorem dL_law_328 : decode cL_law 328 = .ok (.iconst 1, 1) := by decide +kernel
theorem dL_law_329 : decode cL_law 329 = .ok (.iadd, 1) := by decide +kernel
theorem dL_law_330 : decode cL_law 330 = .ok (.iaload, 1) := by decide +kernel
theorem dL_law_331 : decode cL_law 331 = .ok (.invokevirtual 39, 3) := by decide +kernel
theorem dL_law_334 : decode cL_law 334 = .ok (.aload_n 2, 1) := by decide +kernel
theorem dL_law_335 : decode cL_law 335 = .ok (.aload_n 0, 1) := by decide +kernel
theorem dL_law_336 : decode cL_law 336 = .ok (.iload 4, 2) := by decide +kernel
theorem dL_law_338 : decode cL_law 338 = .ok (.iconst 1, 1) := by decide +kernel
theorem dL_law_339 : decode cL_law 339 = .ok (.iadd, 1) := by decide +kernel
theorem dL_law_340 : decode cL_law 340 = .ok (.iaload, 1) := by decide +kernel
theorem dL_law_341 : decode cL_law 341 = .ok (.invokevirtual 42, 3) := by decide +kernel
theorem dL_law_344 : decode cL_law 344 = .ok (.if_icmp .eq 579, 3) := by decide +kernel
theorem dL_law_347 : decode cL_law 347 = .ok (.iconst 0, 1) := by decide +kernel
theorem dL_law_348 : decode cL_law 348 = .ok (.ireturn, 1) := by decide +kernel
theorem dL_law_349 : decode cL_law 349 = .ok (.aload_n 1, 1) := by decide +kernel
theorem dL_law_350 : decode cL_law 350 = .ok (.aload_n 0, 1) := by decide +kernel
theorem dL_law_351 : decode cL_law 351 = .ok (.iload 4, 2) := by decide +kernel
theorem dL_law_353 : decode cL_law 353 = .ok (.iconst 1, 1) := by decide +kernel
theorem dL_law_354 : decode cL_law 354 = .ok (.iadd, 1) := by decide +kernel
theorem dL_law_355 : decode cL_law 355 = .ok (.iaload, 1) := by decide +kernel
theorem dL_law_356 : decode cL_law 356 = .ok (.invokevirtual 43, 3) := by decide +kernel
theorem dL_law_359 : decode cL_law 359 = .ok (.aload_n 2, 1) := by decide +kernel
theorem dL_law_360 : decode cL_law 360 = .ok (.aload_n 0, 1) := by decide +kernel
theorem dL_law_361 : decode cL_law 361 = .ok (.iload 4, 2) := by decide +kernel
theorem dL_law_363 : decode cL_law 363 = .ok (.iconst 1, 1) := by decide +kernel
theorem dL_law_364 : decode cL_law 364 = .ok (.iadd, 1) := by decide +kernel
theorem dL_law_365 : decode cL_law 365 = .ok (.iaload, 1) := by decide +kernel
theorem dL_law_366 : decode cL_law 366 = .ok (.invokevirtual 46, 3) := by decide +kernel
theorem dL_law_369 : decode cL_law 369 = .ok (.if_icmp .eq 554, 3) := by decide +kernel
theorem dL_law_372 : decode cL_law 372 = .ok (.iconst 0, 1) := by decide +kernel
theorem dL_law_373 : decode cL_law 373 = .ok (.ireturn, 1) := by decide +kernel
theorem dL_law_374 : decode cL_law 374 = .ok (.aload_n 1, 1) := by decide +kernel
theorem dL_law_375 : decode cL_law 375 = .ok (.aload_n 0, 1) := by decide +kernel
theorem dL_law_376 : decode cL_law 376 = .ok (.iload 4, 2) := by decide +kernel
theorem dL_law_378 : decode cL_law 378 = .ok (.iconst 1, 1) := by decide +kernel
theorem dL_law_379 : decode cL_law 379 = .ok (.iadd, 1) := by decide +kernel
theorem dL_law_380 : decode cL_law 380 = .ok (.iaload, 1) := by decide +kernel
theorem dL_law_381 : decode cL_law 381 = .ok (.invokevirtual 47, 3) := by decide +kernel
theorem dL_law_384 : decode cL_law 384 = .ok (.aload_n 2, 1) := by decide +kernel
theorem dL_law_385 : decode cL_law 385 = .ok (.aload_n 0, 1) := by decide +kernel
theorem dL_law_386 : decode cL_law 386 = .ok (.iload 4, 2) := by decide +kernel
theorem dL_law_388 : decode cL_law 388 = .ok (.iconst 1, 1) := by decide +kernel
theorem dL_law_389 : decode cL_law 389 = .ok (.iadd, 1) := by decide +kernel
theorem dL_law_390 : decode cL_law 390 = .ok (.iaload, 1) := by decide +kernel
theorem dL_law_391 : decode cL_law 391 = .ok (.invokevirtual 50, 3) := by decide +kernel
theorem dL_law_394 : decode cL_law 394 = .ok (.if_icmp .eq 529, 3) := by decide +kernel
theorem dL_law_397 : decode cL_law 397 = .ok (.iconst 0, 1) := by decide +kernel
theorem dL_law_398 : decode cL_law 398 = .ok (.ireturn, 1) := by decide +kernel
theorem dL_law_399 : decode cL_law 399 = .ok (.aload_n 1, 1) := by decide +kernel
theorem dL_law_400 : decode cL_law 400 = .ok (.invokevirtual 51, 3) := by decide +kernel
theorem dL_law_403 : decode cL_law 403 = .ok (.aload_n 2, 1) := by decide +kernel
theorem dL_law_404 : decode cL_law 404 = .ok (.invokevirtual 55, 3) := by decide +kernel
theorem dL_law_407 : decode cL_law 407 = .ok (.if_icmp .eq 516, 3) := by decide +kernel
theorem dL_law_410 : decode cL_law 410 = .ok (.iconst 0, 1) := by decide +kernel
theorem dL_law_411 : decode cL_law 411 = .ok (.ireturn, 1) := by decide +kernel
theorem dL_law_412 : decode cL_law 412 = .ok (.aload_n 1, 1) := by decide +kernel
theorem dL_law_413 : decode cL_law 413 = .ok (.invokevirtual 56, 3) := by decide +kernel
theorem dL_law_416 : decode cL_law 416 = .ok (.aload_n 2, 1) := by decide +kernel
theorem dL_law_417 : decode cL_law 417 = .ok (.invokevirtual 59, 3) := by decide +kernel
theorem dL_law_420 : decode cL_law 420 = .ok (.if_icmp .eq 503, 3) := by decide +kernel
theorem dL_law_423 : decode cL_law 423 = .ok (.iconst 0, 1) := by decide +kernel
theorem dL_law_424 : decode cL_law 424 = .ok (.ireturn, 1) := by decide +kernel
theorem dL_law_425 : decode cL_law 425 = .ok (.aload_n 1, 1) := by decide +kernel
theorem dL_law_426 : decode cL_law 426 = .ok (.invokevirtual 60, 3) := by decide +kernel
theorem dL_law_429 : decode cL_law 429 = .ok (.aload_n 2, 1) := by decide +kernel
theorem dL_law_430 : decode cL_law 430 = .ok (.invokevirtual 63, 3) := by decide +kernel
theorem dL_law_433 : decode cL_law 433 = .ok (.if_icmp .eq 490, 3) := by decide +kernel
theorem dL_law_436 : decode cL_law 436 = .ok (.iconst 0, 1) := by decide +kernel
theorem dL_law_437 : decode cL_law 437 = .ok (.ireturn, 1) := by decide +kernel
theorem dL_law_438 : decode cL_law 438 = .ok (.aload_n 1, 1) := by decide +kernel
theorem dL_law_439 : decode cL_law 439 = .ok (.aload_n 0, 1) := by decide +kernel
theorem dL_law_440 : decode cL_law 440 = .ok (.iload 4, 2) := by decide +kernel
theorem dL_law_442 : decode cL_law 442 = .ok (.iconst 1, 1) := by decide +kernel
theorem dL_law_443 : decode cL_law 443 = .ok (.iadd, 1) := by decide +kernel
theorem dL_law_444 : decode cL_law 444 = .ok (.iaload, 1) := by decide +kernel
theorem dL_law_445 : decode cL_law 445 = .ok (.invokevirtual 64, 3) := by decide +kernel
theorem dL_law_448 : decode cL_law 448 = .ok (.aload_n 2, 1) := by decide +kernel
theorem dL_law_449 : decode cL_law 449 = .ok (.aload_n 0, 1) := by decide +kernel
theorem dL_law_450 : decode cL_law 450 = .ok (.iload 4, 2) := by decide +kernel
theorem dL_law_452 : decode cL_law 452 = .ok (.iconst 1, 1) := by decide +kernel
theorem dL_law_453 : decode cL_law 453 = .ok (.iadd, 1) := by decide +kernel
theorem dL_law_454 : decode cL_law 454 = .ok (.iaload, 1) := by decide +kernel
theorem dL_law_455 : decode cL_law 455 = .ok (.invokevirtual 67, 3) := by decide +kernel
theorem dL_law_458 : decode cL_law 458 = .ok (.if_icmp .eq 465, 3) := by decide +kernel
theorem dL_law_461 : decode cL_law 461 = .ok (.iconst 0, 1) := by decide +kernel
theorem dL_law_462 : decode cL_law 462 = .ok (.ireturn, 1) := by decide +kernel
theorem dL_law_463 : decode cL_law 463 = .ok (.aload_n 1, 1) := by decide +kernel
theorem dL_law_464 : decode cL_law 464 = .ok (.aload_n 0, 1) := by decide +kernel
theorem dL_law_465 : decode cL_law 465 = .ok (.iload 4, 2) := by decide +kernel
theorem dL_law_467 : decode cL_law 467 = .ok (.iconst 1, 1) := by decide +kernel
theorem dL_law_468 : decode cL_law 468 = .ok (.iadd, 1) := by decide +kernel
theorem dL_law_469 : decode cL_law 469 = .ok (.iaload, 1) := by decide +kernel
theorem dL_law_470 : decode cL_law 470 = .ok (.aload_n 0, 1) := by decide +kernel
theorem dL_law_471 : decode cL_law 471 = .ok (.iload 4, 2) := by decide +kernel
theorem dL_law_473 : decode cL_law 473 = .ok (.iconst 2, 1) := by decide +kernel
theorem dL_law_474 : decode cL_law 474 = .ok (.iadd, 1) := by decide +kernel
theorem dL_law_475 : decode cL_law 475 = .ok (.iaload, 1) := by decide +kernel
theorem dL_law_476 : decode cL_law 476 = .ok (.aload_n 0, 1) := by decide +kernel
theorem dL_law_477 : decode cL_law 477 = .ok (.iload 4, 2) := by decide +kernel
theorem dL_law_479 : decode cL_law 479 = .ok (.iconst 3, 1) := by decide +kernel
theorem dL_law_480 : decode cL_law 480 = .ok (.iadd, 1) := by decide +kernel
theorem dL_law_481 : decode cL_law 481 = .ok (.iaload, 1) := by decide +kernel
theorem dL_law_482 : decode cL_law 482 = .ok (.invokevirtual 68, 3) := by decide +kernel
theorem dL_law_485 : decode cL_law 485 = .ok (.aload_n 2, 1) := by decide +kernel
theorem dL_law_486 : decode cL_law 486 = .ok (.aload_n 0, 1) := by decide +kernel
theorem dL_law_487 : decode cL_law 487 = .ok (.iload 4, 2) := by decide +kernel
theorem dL_law_489 : decode cL_law 489 = .ok (.iconst 1, 1) := by decide +kernel
theorem dL_law_490 : decode cL_law 490 = .ok (.iadd, 1) := by decide +kernel
theorem dL_law_491 : decode cL_law 491 = .ok (.iaload, 1) := by decide +kernel
theorem dL_law_492 : decode cL_law 492 = .ok (.aload_n 0, 1) := by decide +kernel
theorem dL_law_493 : decode cL_law 493 = .ok (.iload 4, 2) := by decide +kernel
theorem dL_law_495 : decode cL_law 495 = .ok (.iconst 2, 1) := by decide +kernel
theorem dL_law_496 : decode cL_law 496 = .ok (.iadd, 1) := by decide +kernel
theorem dL_law_497 : decode cL_law 497 = .ok (.iaload, 1) := by decide +kernel
theorem dL_law_498 : decode cL_law 498 = .ok (.aload_n 0, 1) := by decide +kernel
theorem dL_law_499 : decode cL_law 499 = .ok (.iload 4, 2) := by decide +kernel
theorem dL_law_501 : decode cL_law 501 = .ok (.iconst 3, 1) := by decide +kernel
end
section
theorem dL_law_502 : decode cL_law 502 = .ok (.iadd, 1) := by decide +kernel
theorem dL_law_503 : decode cL_law 503 = .ok (.iaload, 1) := by decide +kernel
theorem dL_law_504 : decode cL_law 504 = .ok (.invokevirtual 72, 3) := by decide +kernel
theorem dL_law_507 : decode cL_law 507 = .ok (.if_icmp .eq 416, 3) := by decide +kernel
theorem dL_law_510 : decode cL_law 510 = .ok (.iconst 0, 1) := by decide +kernel
theorem dL_law_511 : decode cL_law 511 = .ok (.ireturn, 1) := by decide +kernel
theorem dL_law_512 : decode cL_law 512 = .ok (.aload_n 1, 1) := by decide +kernel
theorem dL_law_513 : decode cL_law 513 = .ok (.aload_n 0, 1) := by decide +kernel
theorem dL_law_514 : decode cL_law 514 = .ok (.iload 4, 2) := by decide +kernel
theorem dL_law_516 : decode cL_law 516 = .ok (.iconst 1, 1) := by decide +kernel
theorem dL_law_517 : decode cL_law 517 = .ok (.iadd, 1) := by decide +kernel
theorem dL_law_518 : decode cL_law 518 = .ok (.iaload, 1) := by decide +kernel
theorem dL_law_519 : decode cL_law 519 = .ok (.aload_n 0, 1) := by decide +kernel
theorem dL_law_520 : decode cL_law 520 = .ok (.iload 4, 2) := by decide +kernel
theorem dL_law_522 : decode cL_law 522 = .ok (.iconst 2, 1) := by decide +kernel
theorem dL_law_523 : decode cL_law 523 = .ok (.iadd, 1) := by decide +kernel
theorem dL_law_524 : decode cL_law 524 = .ok (.iaload, 1) := by decide +kernel
theorem dL_law_525 : decode cL_law 525 = .ok (.aload_n 0, 1) := by decide +kernel
theorem dL_law_526 : decode cL_law 526 = .ok (.iload 4, 2) := by decide +kernel
theorem dL_law_528 : decode cL_law 528 = .ok (.iconst 3, 1) := by decide +kernel
theorem dL_law_529 : decode cL_law 529 = .ok (.iadd, 1) := by decide +kernel
theorem dL_law_530 : decode cL_law 530 = .ok (.iaload, 1) := by decide +kernel
theorem dL_law_531 : decode cL_law 531 = .ok (.invokevirtual 73, 3) := by decide +kernel
theorem dL_law_534 : decode cL_law 534 = .ok (.aload_n 2, 1) := by decide +kernel
theorem dL_law_535 : decode cL_law 535 = .ok (.aload_n 0, 1) := by decide +kernel
theorem dL_law_536 : decode cL_law 536 = .ok (.iload 4, 2) := by decide +kernel
theorem dL_law_538 : decode cL_law 538 = .ok (.iconst 1, 1) := by decide +kernel
theorem dL_law_539 : decode cL_law 539 = .ok (.iadd, 1) := by decide +kernel
theorem dL_law_540 : decode cL_law 540 = .ok (.iaload, 1) := by decide +kernel
theorem dL_law_541 : decode cL_law 541 = .ok (.aload_n 0, 1) := by decide +kernel
theorem dL_law_542 : decode cL_law 542 = .ok (.iload 4, 2) := by decide +kernel
theorem dL_law_544 : decode cL_law 544 = .ok (.iconst 2, 1) := by decide +kernel
theorem dL_law_545 : decode cL_law 545 = .ok (.iadd, 1) := by decide +kernel
theorem dL_law_546 : decode cL_law 546 = .ok (.iaload, 1) := by decide +kernel
theorem dL_law_547 : decode cL_law 547 = .ok (.aload_n 0, 1) := by decide +kernel
theorem dL_law_548 : decode cL_law 548 = .ok (.iload 4, 2) := by decide +kernel
theorem dL_law_550 : decode cL_law 550 = .ok (.iconst 3, 1) := by decide +kernel
theorem dL_law_551 : decode cL_law 551 = .ok (.iadd, 1) := by decide +kernel
theorem dL_law_552 : decode cL_law 552 = .ok (.iaload, 1) := by decide +kernel
theorem dL_law_553 : decode cL_law 553 = .ok (.invokevirtual 76, 3) := by decide +kernel
theorem dL_law_556 : decode cL_law 556 = .ok (.if_icmp .eq 367, 3) := by decide +kernel
theorem dL_law_559 : decode cL_law 559 = .ok (.iconst 0, 1) := by decide +kernel
theorem dL_law_560 : decode cL_law 560 = .ok (.ireturn, 1) := by decide +kernel
theorem dL_law_561 : decode cL_law 561 = .ok (.aload_n 1, 1) := by decide +kernel
theorem dL_law_562 : decode cL_law 562 = .ok (.aload_n 0, 1) := by decide +kernel
theorem dL_law_563 : decode cL_law 563 = .ok (.iload 4, 2) := by decide +kernel
theorem dL_law_565 : decode cL_law 565 = .ok (.iconst 1, 1) := by decide +kernel
theorem dL_law_566 : decode cL_law 566 = .ok (.iadd, 1) := by decide +kernel
theorem dL_law_567 : decode cL_law 567 = .ok (.iaload, 1) := by decide +kernel
theorem dL_law_568 : decode cL_law 568 = .ok (.invokevirtual 77, 3) := by decide +kernel
theorem dL_law_571 : decode cL_law 571 = .ok (.aload_n 2, 1) := by decide +kernel
theorem dL_law_572 : decode cL_law 572 = .ok (.aload_n 0, 1) := by decide +kernel
theorem dL_law_573 : decode cL_law 573 = .ok (.iload 4, 2) := by decide +kernel
theorem dL_law_575 : decode cL_law 575 = .ok (.iconst 1, 1) := by decide +kernel
theorem dL_law_576 : decode cL_law 576 = .ok (.iadd, 1) := by decide +kernel
theorem dL_law_577 : decode cL_law 577 = .ok (.iaload, 1) := by decide +kernel
theorem dL_law_578 : decode cL_law 578 = .ok (.invokevirtual 80, 3) := by decide +kernel
theorem dL_law_581 : decode cL_law 581 = .ok (.if_icmp .eq 342, 3) := by decide +kernel
theorem dL_law_584 : decode cL_law 584 = .ok (.iconst 0, 1) := by decide +kernel
theorem dL_law_585 : decode cL_law 585 = .ok (.ireturn, 1) := by decide +kernel
theorem dL_law_586 : decode cL_law 586 = .ok (.aload_n 1, 1) := by decide +kernel
theorem dL_law_587 : decode cL_law 587 = .ok (.invokevirtual 81, 3) := by decide +kernel
theorem dL_law_590 : decode cL_law 590 = .ok (.aload_n 2, 1) := by decide +kernel
theorem dL_law_591 : decode cL_law 591 = .ok (.invokevirtual 84, 3) := by decide +kernel
theorem dL_law_594 : decode cL_law 594 = .ok (.if_icmp .eq 329, 3) := by decide +kernel
theorem dL_law_597 : decode cL_law 597 = .ok (.iconst 0, 1) := by decide +kernel
theorem dL_law_598 : decode cL_law 598 = .ok (.ireturn, 1) := by decide +kernel
theorem dL_law_599 : decode cL_law 599 = .ok (.aload_n 1, 1) := by decide +kernel
theorem dL_law_600 : decode cL_law 600 = .ok (.invokevirtual 85, 3) := by decide +kernel
theorem dL_law_603 : decode cL_law 603 = .ok (.aload_n 2, 1) := by decide +kernel
theorem dL_law_604 : decode cL_law 604 = .ok (.invokevirtual 89, 3) := by decide +kernel
theorem dL_law_607 : decode cL_law 607 = .ok (.if_icmp .eq 316, 3) := by decide +kernel
theorem dL_law_610 : decode cL_law 610 = .ok (.iconst 0, 1) := by decide +kernel
theorem dL_law_611 : decode cL_law 611 = .ok (.ireturn, 1) := by decide +kernel
theorem dL_law_612 : decode cL_law 612 = .ok (.aload_n 1, 1) := by decide +kernel
theorem dL_law_613 : decode cL_law 613 = .ok (.aload_n 0, 1) := by decide +kernel
theorem dL_law_614 : decode cL_law 614 = .ok (.iload 4, 2) := by decide +kernel
theorem dL_law_616 : decode cL_law 616 = .ok (.iconst 1, 1) := by decide +kernel
theorem dL_law_617 : decode cL_law 617 = .ok (.iadd, 1) := by decide +kernel
theorem dL_law_618 : decode cL_law 618 = .ok (.iaload, 1) := by decide +kernel
theorem dL_law_619 : decode cL_law 619 = .ok (.aload_n 0, 1) := by decide +kernel
theorem dL_law_620 : decode cL_law 620 = .ok (.iload 4, 2) := by decide +kernel
theorem dL_law_622 : decode cL_law 622 = .ok (.iconst 2, 1) := by decide +kernel
theorem dL_law_623 : decode cL_law 623 = .ok (.iadd, 1) := by decide +kernel
theorem dL_law_624 : decode cL_law 624 = .ok (.iaload, 1) := by decide +kernel
theorem dL_law_625 : decode cL_law 625 = .ok (.aload_n 0, 1) := by decide +kernel
theorem dL_law_626 : decode cL_law 626 = .ok (.iload 4, 2) := by decide +kernel
theorem dL_law_628 : decode cL_law 628 = .ok (.iconst 3, 1) := by decide +kernel
theorem dL_law_629 : decode cL_law 629 = .ok (.iadd, 1) := by decide +kernel
theorem dL_law_630 : decode cL_law 630 = .ok (.iaload, 1) := by decide +kernel
theorem dL_law_631 : decode cL_law 631 = .ok (.ifCond .eq 7, 3) := by decide +kernel
theorem dL_law_634 : decode cL_law 634 = .ok (.iconst 1, 1) := by decide +kernel
theorem dL_law_635 : decode cL_law 635 = .ok (.goto 4, 3) := by decide +kernel
theorem dL_law_638 : decode cL_law 638 = .ok (.iconst 0, 1) := by decide +kernel
theorem dL_law_639 : decode cL_law 639 = .ok (.invokevirtual 90, 3) := by decide +kernel
theorem dL_law_642 : decode cL_law 642 = .ok (.aload_n 2, 1) := by decide +kernel
theorem dL_law_643 : decode cL_law 643 = .ok (.aload_n 0, 1) := by decide +kernel
theorem dL_law_644 : decode cL_law 644 = .ok (.iload 4, 2) := by decide +kernel
theorem dL_law_646 : decode cL_law 646 = .ok (.iconst 1, 1) := by decide +kernel
theorem dL_law_647 : decode cL_law 647 = .ok (.iadd, 1) := by decide +kernel
theorem dL_law_648 : decode cL_law 648 = .ok (.iaload, 1) := by decide +kernel
theorem dL_law_649 : decode cL_law 649 = .ok (.aload_n 0, 1) := by decide +kernel
theorem dL_law_650 : decode cL_law 650 = .ok (.iload 4, 2) := by decide +kernel
theorem dL_law_652 : decode cL_law 652 = .ok (.iconst 2, 1) := by decide +kernel
theorem dL_law_653 : decode cL_law 653 = .ok (.iadd, 1) := by decide +kernel
theorem dL_law_654 : decode cL_law 654 = .ok (.iaload, 1) := by decide +kernel
theorem dL_law_655 : decode cL_law 655 = .ok (.aload_n 0, 1) := by decide +kernel
theorem dL_law_656 : decode cL_law 656 = .ok (.iload 4, 2) := by decide +kernel
theorem dL_law_658 : decode cL_law 658 = .ok (.iconst 3, 1) := by decide +kernel
theorem dL_law_659 : decode cL_law 659 = .ok (.iadd, 1) := by decide +kernel
theorem dL_law_660 : decode cL_law 660 = .ok (.iaload, 1) := by decide +kernel
theorem dL_law_661 : decode cL_law 661 = .ok (.ifCond .eq 7, 3) := by decide +kernel
theorem dL_law_664 : decode cL_law 664 = .ok (.iconst 1, 1) := by decide +kernel
theorem dL_law_665 : decode cL_law 665 = .ok (.goto 4, 3) := by decide +kernel
theorem dL_law_668 : decode cL_law 668 = .ok (.iconst 0, 1) := by decide +kernel
theorem dL_law_669 : decode cL_law 669 = .ok (.invokevirtual 94, 3) := by decide +kernel
theorem dL_law_672 : decode cL_law 672 = .ok (.if_icmp .eq 251, 3) := by decide +kernel
theorem dL_law_675 : decode cL_law 675 = .ok (.iconst 0, 1) := by decide +kernel
theorem dL_law_676 : decode cL_law 676 = .ok (.ireturn, 1) := by decide +kernel
theorem dL_law_677 : decode cL_law 677 = .ok (.aload_n 1, 1) := by decide +kernel
theorem dL_law_678 : decode cL_law 678 = .ok (.invokevirtual 95, 3) := by decide +kernel
theorem dL_law_681 : decode cL_law 681 = .ok (.aload_n 2, 1) := by decide +kernel
theorem dL_law_682 : decode cL_law 682 = .ok (.invokevirtual 98, 3) := by decide +kernel
theorem dL_law_685 : decode cL_law 685 = .ok (.if_icmp .eq 238, 3) := by decide +kernel
theorem dL_law_688 : decode cL_law 688 = .ok (.iconst 0, 1) := by decide +kernel
theorem dL_law_689 : decode cL_law 689 = .ok (.ireturn, 1) := by decide +kernel
theorem dL_law_690 : decode cL_law 690 = .ok (.aload_n 1, 1) := by decide +kernel
theorem dL_law_691 : decode cL_law 691 = .ok (.aload_n 0, 1) := by decide +kernel
theorem dL_law_692 : decode cL_law 692 = .ok (.iload 4, 2) := by decide +kernel
theorem dL_law_694 : decode cL_law 694 = .ok (.iconst 1, 1) := by decide +kernel
theorem dL_law_695 : decode cL_law 695 = .ok (.iadd, 1) := by decide +kernel
theorem dL_law_696 : decode cL_law 696 = .ok (.iaload, 1) := by decide +kernel
theorem dL_law_697 : decode cL_law 697 = .ok (.invokevirtual 99, 3) := by decide +kernel
theorem dL_law_700 : decode cL_law 700 = .ok (.aload_n 2, 1) := by decide +kernel
theorem dL_law_701 : decode cL_law 701 = .ok (.aload_n 0, 1) := by decide +kernel
theorem dL_law_702 : decode cL_law 702 = .ok (.iload 4, 2) := by decide +kernel
theorem dL_law_704 : decode cL_law 704 = .ok (.iconst 1, 1) := by decide +kernel
theorem dL_law_705 : decode cL_law 705 = .ok (.iadd, 1) := by decide +kernel
theorem dL_law_706 : decode cL_law 706 = .ok (.iaload, 1) := by decide +kernel
theorem dL_law_707 : decode cL_law 707 = .ok (.invokevirtual 102, 3) := by decide +kernel
theorem dL_law_710 : decode cL_law 710 = .ok (.if_icmp .eq 213, 3) := by decide +kernel
theorem dL_law_713 : decode cL_law 713 = .ok (.iconst 0, 1) := by decide +kernel
theorem dL_law_714 : decode cL_law 714 = .ok (.ireturn, 1) := by decide +kernel
theorem dL_law_715 : decode cL_law 715 = .ok (.aload_n 1, 1) := by decide +kernel
end
section
theorem dL_law_716 : decode cL_law 716 = .ok (.aload_n 0, 1) := by decide +kernel
theorem dL_law_717 : decode cL_law 717 = .ok (.iload 4, 2) := by decide +kernel
theorem dL_law_719 : decode cL_law 719 = .ok (.iconst 1, 1) := by decide +kernel
theorem dL_law_720 : decode cL_law 720 = .ok (.iadd, 1) := by decide +kernel
theorem dL_law_721 : decode cL_law 721 = .ok (.iaload, 1) := by decide +kernel
theorem dL_law_722 : decode cL_law 722 = .ok (.invokevirtual 103, 3) := by decide +kernel
theorem dL_law_725 : decode cL_law 725 = .ok (.aload_n 2, 1) := by decide +kernel
theorem dL_law_726 : decode cL_law 726 = .ok (.aload_n 0, 1) := by decide +kernel
theorem dL_law_727 : decode cL_law 727 = .ok (.iload 4, 2) := by decide +kernel
theorem dL_law_729 : decode cL_law 729 = .ok (.iconst 1, 1) := by decide +kernel
theorem dL_law_730 : decode cL_law 730 = .ok (.iadd, 1) := by decide +kernel
theorem dL_law_731 : decode cL_law 731 = .ok (.iaload, 1) := by decide +kernel
theorem dL_law_732 : decode cL_law 732 = .ok (.invokevirtual 106, 3) := by decide +kernel
theorem dL_law_735 : decode cL_law 735 = .ok (.if_icmp .eq 188, 3) := by decide +kernel
theorem dL_law_738 : decode cL_law 738 = .ok (.iconst 0, 1) := by decide +kernel
theorem dL_law_739 : decode cL_law 739 = .ok (.ireturn, 1) := by decide +kernel
theorem dL_law_740 : decode cL_law 740 = .ok (.aload_n 1, 1) := by decide +kernel
theorem dL_law_741 : decode cL_law 741 = .ok (.aload_n 0, 1) := by decide +kernel
theorem dL_law_742 : decode cL_law 742 = .ok (.iload 4, 2) := by decide +kernel
theorem dL_law_744 : decode cL_law 744 = .ok (.iconst 1, 1) := by decide +kernel
theorem dL_law_745 : decode cL_law 745 = .ok (.iadd, 1) := by decide +kernel
theorem dL_law_746 : decode cL_law 746 = .ok (.iaload, 1) := by decide +kernel
theorem dL_law_747 : decode cL_law 747 = .ok (.aload_n 0, 1) := by decide +kernel
theorem dL_law_748 : decode cL_law 748 = .ok (.iload 4, 2) := by decide +kernel
theorem dL_law_750 : decode cL_law 750 = .ok (.iconst 2, 1) := by decide +kernel
theorem dL_law_751 : decode cL_law 751 = .ok (.iadd, 1) := by decide +kernel
theorem dL_law_752 : decode cL_law 752 = .ok (.iaload, 1) := by decide +kernel
theorem dL_law_753 : decode cL_law 753 = .ok (.invokevirtual 107, 3) := by decide +kernel
theorem dL_law_756 : decode cL_law 756 = .ok (.aload_n 2, 1) := by decide +kernel
theorem dL_law_757 : decode cL_law 757 = .ok (.aload_n 0, 1) := by decide +kernel
theorem dL_law_758 : decode cL_law 758 = .ok (.iload 4, 2) := by decide +kernel
theorem dL_law_760 : decode cL_law 760 = .ok (.iconst 1, 1) := by decide +kernel
theorem dL_law_761 : decode cL_law 761 = .ok (.iadd, 1) := by decide +kernel
theorem dL_law_762 : decode cL_law 762 = .ok (.iaload, 1) := by decide +kernel
theorem dL_law_763 : decode cL_law 763 = .ok (.aload_n 0, 1) := by decide +kernel
theorem dL_law_764 : decode cL_law 764 = .ok (.iload 4, 2) := by decide +kernel
theorem dL_law_766 : decode cL_law 766 = .ok (.iconst 2, 1) := by decide +kernel
theorem dL_law_767 : decode cL_law 767 = .ok (.iadd, 1) := by decide +kernel
theorem dL_law_768 : decode cL_law 768 = .ok (.iaload, 1) := by decide +kernel
theorem dL_law_769 : decode cL_law 769 = .ok (.invokevirtual 111, 3) := by decide +kernel
theorem dL_law_772 : decode cL_law 772 = .ok (.if_icmp .eq 151, 3) := by decide +kernel
theorem dL_law_775 : decode cL_law 775 = .ok (.iconst 0, 1) := by decide +kernel
theorem dL_law_776 : decode cL_law 776 = .ok (.ireturn, 1) := by decide +kernel
theorem dL_law_777 : decode cL_law 777 = .ok (.aload_n 1, 1) := by decide +kernel
theorem dL_law_778 : decode cL_law 778 = .ok (.aload_n 0, 1) := by decide +kernel
theorem dL_law_779 : decode cL_law 779 = .ok (.iload 4, 2) := by decide +kernel
theorem dL_law_781 : decode cL_law 781 = .ok (.iconst 1, 1) := by decide +kernel
theorem dL_law_782 : decode cL_law 782 = .ok (.iadd, 1) := by decide +kernel
theorem dL_law_783 : decode cL_law 783 = .ok (.iaload, 1) := by decide +kernel
theorem dL_law_784 : decode cL_law 784 = .ok (.aload_n 0, 1) := by decide +kernel
theorem dL_law_785 : decode cL_law 785 = .ok (.iload 4, 2) := by decide +kernel
theorem dL_law_787 : decode cL_law 787 = .ok (.iconst 2, 1) := by decide +kernel
theorem dL_law_788 : decode cL_law 788 = .ok (.iadd, 1) := by decide +kernel
theorem dL_law_789 : decode cL_law 789 = .ok (.iaload, 1) := by decide +kernel
theorem dL_law_790 : decode cL_law 790 = .ok (.aload_n 0, 1) := by decide +kernel
theorem dL_law_791 : decode cL_law 791 = .ok (.iload 4, 2) := by decide +kernel
theorem dL_law_793 : decode cL_law 793 = .ok (.iconst 3, 1) := by decide +kernel
theorem dL_law_794 : decode cL_law 794 = .ok (.iadd, 1) := by decide +kernel
theorem dL_law_795 : decode cL_law 795 = .ok (.iaload, 1) := by decide +kernel
theorem dL_law_796 : decode cL_law 796 = .ok (.ifCond .eq 7, 3) := by decide +kernel
theorem dL_law_799 : decode cL_law 799 = .ok (.iconst 1, 1) := by decide +kernel
theorem dL_law_800 : decode cL_law 800 = .ok (.goto 4, 3) := by decide +kernel
theorem dL_law_803 : decode cL_law 803 = .ok (.iconst 0, 1) := by decide +kernel
theorem dL_law_804 : decode cL_law 804 = .ok (.aload_n 3, 1) := by decide +kernel
theorem dL_law_805 : decode cL_law 805 = .ok (.invokestatic 112, 3) := by decide +kernel
theorem dL_law_808 : decode cL_law 808 = .ok (.istore 5, 2) := by decide +kernel
theorem dL_law_810 : decode cL_law 810 = .ok (.aload_n 2, 1) := by decide +kernel
theorem dL_law_811 : decode cL_law 811 = .ok (.aload_n 0, 1) := by decide +kernel
theorem dL_law_812 : decode cL_law 812 = .ok (.iload 4, 2) := by decide +kernel
theorem dL_law_814 : decode cL_law 814 = .ok (.iconst 1, 1) := by decide +kernel
theorem dL_law_815 : decode cL_law 815 = .ok (.iadd, 1) := by decide +kernel
theorem dL_law_816 : decode cL_law 816 = .ok (.iaload, 1) := by decide +kernel
theorem dL_law_817 : decode cL_law 817 = .ok (.aload_n 0, 1) := by decide +kernel
theorem dL_law_818 : decode cL_law 818 = .ok (.iload 4, 2) := by decide +kernel
theorem dL_law_820 : decode cL_law 820 = .ok (.iconst 2, 1) := by decide +kernel
theorem dL_law_821 : decode cL_law 821 = .ok (.iadd, 1) := by decide +kernel
theorem dL_law_822 : decode cL_law 822 = .ok (.iaload, 1) := by decide +kernel
theorem dL_law_823 : decode cL_law 823 = .ok (.aload_n 0, 1) := by decide +kernel
theorem dL_law_824 : decode cL_law 824 = .ok (.iload 4, 2) := by decide +kernel
theorem dL_law_826 : decode cL_law 826 = .ok (.iconst 3, 1) := by decide +kernel
theorem dL_law_827 : decode cL_law 827 = .ok (.iadd, 1) := by decide +kernel
theorem dL_law_828 : decode cL_law 828 = .ok (.iaload, 1) := by decide +kernel
theorem dL_law_829 : decode cL_law 829 = .ok (.ifCond .eq 7, 3) := by decide +kernel
theorem dL_law_832 : decode cL_law 832 = .ok (.iconst 1, 1) := by decide +kernel
theorem dL_law_833 : decode cL_law 833 = .ok (.goto 4, 3) := by decide +kernel
theorem dL_law_836 : decode cL_law 836 = .ok (.iconst 0, 1) := by decide +kernel
theorem dL_law_837 : decode cL_law 837 = .ok (.invokevirtual 117, 3) := by decide +kernel
theorem dL_law_840 : decode cL_law 840 = .ok (.istore 6, 2) := by decide +kernel
theorem dL_law_842 : decode cL_law 842 = .ok (.aload_n 2, 1) := by decide +kernel
theorem dL_law_843 : decode cL_law 843 = .ok (.invokevirtual 118, 3) := by decide +kernel
theorem dL_law_846 : decode cL_law 846 = .ok (.iload 5, 2) := by decide +kernel
theorem dL_law_848 : decode cL_law 848 = .ok (.if_icmp .eq 5, 3) := by decide +kernel
theorem dL_law_851 : decode cL_law 851 = .ok (.iconst 0, 1) := by decide +kernel
theorem dL_law_852 : decode cL_law 852 = .ok (.ireturn, 1) := by decide +kernel
theorem dL_law_853 : decode cL_law 853 = .ok (.iload 5, 2) := by decide +kernel
theorem dL_law_855 : decode cL_law 855 = .ok (.ifCond .ne 15, 3) := by decide +kernel
theorem dL_law_858 : decode cL_law 858 = .ok (.aload_n 3, 1) := by decide +kernel
theorem dL_law_859 : decode cL_law 859 = .ok (.iconst 0, 1) := by decide +kernel
theorem dL_law_860 : decode cL_law 860 = .ok (.laload, 1) := by decide +kernel
theorem dL_law_861 : decode cL_law 861 = .ok (.iload 6, 2) := by decide +kernel
theorem dL_law_863 : decode cL_law 863 = .ok (.i2l, 1) := by decide +kernel
theorem dL_law_864 : decode cL_law 864 = .ok (.lcmp, 1) := by decide +kernel
theorem dL_law_865 : decode cL_law 865 = .ok (.ifCond .eq 5, 3) := by decide +kernel
theorem dL_law_868 : decode cL_law 868 = .ok (.iconst 0, 1) := by decide +kernel
theorem dL_law_869 : decode cL_law 869 = .ok (.ireturn, 1) := by decide +kernel
theorem dL_law_870 : decode cL_law 870 = .ok (.goto 53, 3) := by decide +kernel
theorem dL_law_873 : decode cL_law 873 = .ok (.aload_n 1, 1) := by decide +kernel
theorem dL_law_874 : decode cL_law 874 = .ok (.aload_n 0, 1) := by decide +kernel
theorem dL_law_875 : decode cL_law 875 = .ok (.iload 4, 2) := by decide +kernel
theorem dL_law_877 : decode cL_law 877 = .ok (.iconst 1, 1) := by decide +kernel
theorem dL_law_878 : decode cL_law 878 = .ok (.iadd, 1) := by decide +kernel
theorem dL_law_879 : decode cL_law 879 = .ok (.iaload, 1) := by decide +kernel
theorem dL_law_880 : decode cL_law 880 = .ok (.invokevirtual 121, 3) := by decide +kernel
theorem dL_law_883 : decode cL_law 883 = .ok (.aload_n 2, 1) := by decide +kernel
theorem dL_law_884 : decode cL_law 884 = .ok (.aload_n 0, 1) := by decide +kernel
theorem dL_law_885 : decode cL_law 885 = .ok (.iload 4, 2) := by decide +kernel
theorem dL_law_887 : decode cL_law 887 = .ok (.iconst 1, 1) := by decide +kernel
theorem dL_law_888 : decode cL_law 888 = .ok (.iadd, 1) := by decide +kernel
theorem dL_law_889 : decode cL_law 889 = .ok (.iaload, 1) := by decide +kernel
theorem dL_law_890 : decode cL_law 890 = .ok (.invokevirtual 124, 3) := by decide +kernel
theorem dL_law_893 : decode cL_law 893 = .ok (.if_icmp .eq 30, 3) := by decide +kernel
theorem dL_law_896 : decode cL_law 896 = .ok (.iconst 0, 1) := by decide +kernel
theorem dL_law_897 : decode cL_law 897 = .ok (.ireturn, 1) := by decide +kernel
theorem dL_law_898 : decode cL_law 898 = .ok (.aload_n 1, 1) := by decide +kernel
theorem dL_law_899 : decode cL_law 899 = .ok (.aload_n 0, 1) := by decide +kernel
theorem dL_law_900 : decode cL_law 900 = .ok (.iload 4, 2) := by decide +kernel
theorem dL_law_902 : decode cL_law 902 = .ok (.iconst 1, 1) := by decide +kernel
theorem dL_law_903 : decode cL_law 903 = .ok (.iadd, 1) := by decide +kernel
theorem dL_law_904 : decode cL_law 904 = .ok (.iaload, 1) := by decide +kernel
theorem dL_law_905 : decode cL_law 905 = .ok (.invokevirtual 125, 3) := by decide +kernel
theorem dL_law_908 : decode cL_law 908 = .ok (.aload_n 2, 1) := by decide +kernel
theorem dL_law_909 : decode cL_law 909 = .ok (.aload_n 0, 1) := by decide +kernel
theorem dL_law_910 : decode cL_law 910 = .ok (.iload 4, 2) := by decide +kernel
theorem dL_law_912 : decode cL_law 912 = .ok (.iconst 1, 1) := by decide +kernel
theorem dL_law_913 : decode cL_law 913 = .ok (.iadd, 1) := by decide +kernel
theorem dL_law_914 : decode cL_law 914 = .ok (.iaload, 1) := by decide +kernel
theorem dL_law_915 : decode cL_law 915 = .ok (.invokevirtual 128, 3) := by decide +kernel
theorem dL_law_918 : decode cL_law 918 = .ok (.if_icmp .eq 5, 3) := by decide +kernel
theorem dL_law_921 : decode cL_law 921 = .ok (.iconst 0, 1) := by decide +kernel
theorem dL_law_922 : decode cL_law 922 = .ok (.ireturn, 1) := by decide +kernel
theorem dL_law_923 : decode cL_law 923 = .ok (.iinc 4 6, 3) := by decide +kernel
theorem dL_law_926 : decode cL_law 926 = .ok (.goto (-903), 3) := by decide +kernel
theorem dL_law_929 : decode cL_law 929 = .ok (.iconst 1, 1) := by decide +kernel
theorem dL_law_930 : decode cL_law 930 = .ok (.ireturn, 1) := by decide +kernel
end
section
/-- the words that every contract stands on: those of the tables that last -/
def TB : List Cond := lw_tbl.filter goodWord
theorem TB_good : ∀ w ∈ TB, ((w.onTables && w.keeps) = true ∨ ∃ ty, w = .arrayClass ty) := fun _ h => good_of_word (List.mem_filter.mp h).2
theorem TB_of {w : Cond} (i : Nat) (h : lw_tbl[i]? = some w) (hg : goodWord w = true) : w ∈ TB := List.mem_filter.mpr ⟨List.mem_of_getElem? h, hg⟩
theorem TB_in {w : Cond} (h : w ∈ TB) : w ∈ lw_tbl := (List.mem_filter.mp h).1
theorem tt_test1 : Cond.fieldLink "TrainDesk$Offers" 9 "TrainDesk$Offers" "versions" "[I" ∈ TB := TB_of 85 (by decide +kernel) rfl
theorem tt_test2 : Cond.fieldLink "TrainDesk$Offers" 9 "TrainDesk$Offers" "versions" "[I" ∈ TB := TB_of 85 rfl rfl
end
section
/-! ===== the layer V: one world for every method, its cells by their places; a method's own state (pc, locals, stack, world) and nothing else ===== -/
abbrev CL : List vw_C := [(RX0, TX0, 2), (RX1, TX1, 8), (RX2, TX2, 2), (RX3, TX3, 3), (RX4, TX4, 2), (RX5, TX5, 2), (RX6, TX6, 4), (RX7, TX7, 11), (RX8, TX8, 33), (RJx4a65c, TJx4a65c, 3)]
/-- the launch, the classes' numbers, the array classes (int, boolean, long, Object), what else is known of the start -/
abbrev VE : Type := Launch × va_G × (ClassId × ClassId × ClassId × ClassId) × ((Nat → Prop) → State → Prop)
abbrev cI (E : VE) : ClassId := E.2.2.1.1
abbrev cZ (E : VE) : ClassId := E.2.2.1.2.1
abbrev cJ (E : VE) : ClassId := E.2.2.1.2.2.1
abbrev cO (E : VE) : ClassId := E.2.2.1.2.2.2
abbrev TY (E : VE) : List (ClassId × FieldType) := [(cI E, .int), (cZ E, .boolean), (cJ E, .long), (cO E, .object "java/lang/Object")]
def GOK (G : (Nat → Prop) → State → Prop) : Prop := (∀ (A : Nat → Prop) (s U : State), s.vm = U.vm → s.heap = U.heap → G A s → G A U) ∧
  ∀ (A A' : Nat → Prop) (s U : State) (locs : List Loc), G A s → s.WarmedH U.vm → va_S A s.heap U.heap locs → (∀ q, A' q → q < s.heap.size → A q) → G A' U
def lvOf (L : List (Option Value)) : List (Nat × Value) := (List.range L.length).filterMap fun i => match L[i]? with
  | some (some v) => some (i, v)
  | _ => none
theorem mem_lvOf {L : List (Option Value)} {i : Nat} {v : Value} : (i, v) ∈ lvOf L ↔ L[i]? = some (some v) := by
  unfold lvOf
  rw [List.mem_filterMap]
  constructor
  · rintro ⟨j, -, hj⟩
    split at hj
    next w hw =>
      cases hj
      exact hw
    next => cases hj
  · intro h
    have hi : i < L.length := (List.getElem?_eq_some_iff.mp h).1
    refine ⟨i, List.mem_range.mpr hi, ?_⟩
    rw [h]
/-- the locals: those of L that are told are held; each takes one slot -/
def Lh (ls : Array Slot) (nL : Nat) (L : List (Option Value)) : Prop := lv_has ls nL (lvOf L) ∧ ∀ (i : Nat) (v : Value), L[i]? = some (some v) → v.category = 1
theorem Lh.at {ls : Array Slot} {nL : Nat} {L : List (Option Value)} (h : Lh ls nL L) {i : Nat} {v : Value} (hi : L[i]? = some (some v)) : ls[i]? = some (.val v) := h.1.2.2 (i, v) (mem_lvOf.mpr hi)
theorem Lh.put {ls : Array Slot} {nL : Nat} {L : List (Option Value)} {i : Nat} {v : Value} (h : Lh ls nL L) (hc : v.category = 1) {ls' : Array Slot} (hl : lv_has ls' nL ((i, v) :: (lvOf L).filter (fun q => !(q.1 == i) && !(q.1 + 1 == i && q.2.category == 2)))) : Lh ls' nL (L.set i (some v)) := by
  refine ⟨⟨hl.1, hl.2.1, fun q hq => ?_⟩, fun j w hj => ?_⟩
  · obtain ⟨j, w⟩ := q
    have hj := mem_lvOf.mp hq
    rw [List.getElem?_set] at hj
    by_cases e : i = j
    · subst e
      rw [if_pos rfl] at hj
      split at hj
      · cases hj
        exact hl.2.2 _ List.mem_cons_self
      · cases hj
    · rw [if_neg e] at hj
      refine hl.2.2 _ (List.mem_cons_of_mem _ (List.mem_filter.mpr ⟨mem_lvOf.mpr hj, ?_⟩))
      have h1 := h.2 j w hj
      have e2 : ¬ j = i := fun z => e z.symm
      simp [e2, h1]
  · rw [List.getElem?_set] at hj
    by_cases e : i = j
    · subst e
      rw [if_pos rfl] at hj
      split at hj
      · cases hj
        exact hc
      · cases hj
    · rw [if_neg e] at hj
      exact h.2 j w hj
theorem Lh.sub {ls : Array Slot} {nL : Nat} {L L' : List (Option Value)} (h : Lh ls nL L) (hs : ∀ (i : Nat) (v : Value), L'[i]? = some (some v) → L[i]? = some (some v)) : Lh ls nL L' :=
  ⟨⟨h.1.1, h.1.2.1, fun q hq => h.1.2.2 q (mem_lvOf.mpr (hs q.1 q.2 (mem_lvOf.mp hq)))⟩, fun i v hi => h.2 i v (hs i v hi)⟩
abbrev RM (fr mc ms : Nat) : Room := { frames := fr, cells := mc, slots := ms, locals := 40 * fr }
/-- the end of a method: its answer, its world -/
def Q0 (E : VE) (A : Nat → Prop) (post : Option Value → va_W → Prop) : Array Value → State → Outcome → State → Prop := fun _ st o t =>
  (∃ (v : Option Value) (ws' : va_W), o = .returned v ∧ post v ws' ∧ va_P E.2.1 CL ws' t.heap ∧ va_D A ws') ∧ va_F A st t
def Cx (E : VE) (y : MethodName) (bt : ByteArray) (nL : Nat) (rt : Option FieldType) (p : Program) (s : State) (m : MethodId) (args : Array Value) (meth : Method) (c : Code) (A : Nat → Prop) : Prop :=
  p.tables.exec = Jvm.exec ∧ c.code = bt ∧ meth.sig.returnType = rt ∧ c.maxLocals = nL ∧ s.vm.findClass y.cls = some m.cls ∧ (∀ w ∈ TB, w.before args s = true) ∧ meth.locks = false ∧ meth.name = y.name ∧ va_K E.2.1 CL (TY E) s ∧ (∀ q, s.heap.size ≤ q → A q) ∧ GOK E.2.2.2 ∧ E.2.2.2 A s
/-- the judgement: from here the method comes to its end with 'post' -/
def V (E : VE) (y : MethodName) (bt : ByteArray) (nL : Nat) (rt : Option FieldType) (fr mc ms : Nat) (post : Option Value → va_W → Prop) (pc : Nat) (L : List (Option Value)) (st : List Value) (ws : va_W) (cl sl : Nat) : Prop :=
  ∀ (p : Program) (e : Env) (s : State) (m : MethodId) (args : Array Value) (below : List Frame) (meth : Method) (c : Code) (H : Heap) (locs : List Loc) (ls : Array Slot) (A : Nat → Prop),
    Cx E y bt nL rt p s m args meth c A → Lh ls nL L → va_P E.2.1 CL ws H → va_D A ws → va_S A s.heap H locs →
    W p E.1 e (RM fr mc ms) s m args below meth c H locs cl sl (MQ below (Q0 E A post) args s mc ms A) (F0 m pc ls st)
/-- a method's contract: from the world ws, with these arguments -/
def Ct (E : VE) (y : MethodName) (bt : ByteArray) (nL : Nat) (rt : Option FieldType) (fr mc ms : Nat) (av : List Value) (ws : va_W) (post : Option Value → va_W → Prop) : Prop :=
  GOK E.2.2.2 → ∀ sz : Nat, Met E.1 y (Cond.code y bt nL rt :: TB) (RM fr mc ms) (va_Pc av (fun U => U.heap.size = sz ∧ va_P E.2.1 CL ws U.heap ∧ va_K E.2.1 CL (TY E) U ∧ va_D (fun _ => True) ws ∧ E.2.2.2 (va_A ws sz) U)) (Q0 E (va_A ws sz) post) mc ms (va_A ws sz)
-- the words of a link
def FL (own : String) (ix ci k : Nat) : Prop := ∃ (C : String) (T : u_T) (N : Nat), CL[ci]? = some (C, T, N) ∧ k < N ∧ (∀ w ∈ u_ws C T N, w ∈ TB) ∧ Cond.fieldLink own ix (T k).1 (T k).2.1 (T k).2.2.1 ∈ TB
def FP (own : String) (ix ci k : Nat) (ty : FieldType) (fin : Bool) : Prop := ∃ (C : String) (T : u_T) (N : Nat) (ty0 : Nat → FieldType), CL[ci]? = some (C, T, N) ∧ k < N ∧ (∀ w ∈ u_ws C T N, w ∈ TB) ∧ Cond.fieldLink own ix (T k).1 (T k).2.1 (T k).2.2.1 ∈ TB ∧
  (∀ j, j < N → parseFieldDescriptor (T j).2.2.1 = some (ty0 j)) ∧ (∀ a, a < N → ∀ b, b < N → a ≠ b → (T a).2.1 ≠ (T b).2.1) ∧ (T k).2.2.2 = fin ∧ parseFieldDescriptor (T k).2.2.1 = some ty ∧ (fin = true → (T k).1 = own)
def MW (y : MethodName) (bt : ByteArray) (nL : Nat) (rt : Option FieldType) (n : Nat) : Prop := Cond.code y bt nL rt ∈ TB ∧ Cond.initialized y.cls ∈ TB ∧ (y.cls ≠ "java/lang/invoke/MethodHandle" ∧ y.cls ≠ "java/lang/invoke/VarHandle" ∧ (parseMethodDescriptor y.desc).map (fun d => d.parameters.length) = some n) ∧ plainName y.cls = true
/-- a link to an instance method, to a static one, to a constructor -/
def MV (own : String) (ix : Nat) (y : MethodName) : Prop := Cond.methodLink own ix y ∈ TB ∧ Cond.instanceMethod y ∈ TB ∧ Cond.selects y.cls y y ∈ TB
def MS (own : String) (ix : Nat) (y : MethodName) : Prop := Cond.methodLink own ix y ∈ TB ∧ Cond.static y ∈ TB
def MI (own : String) (ix : Nat) (y : MethodName) : Prop := Cond.methodLink own ix y ∈ TB ∧ Cond.instanceMethod y ∈ TB ∧ y.name = "<init>"
theorem gUni {c : Cond} {y : MethodName} {bt : ByteArray} {nL : Nat} {rt : Option FieldType} (h : Cond.code y bt nL rt ∈ TB) : GoodIn (c :: TB) (Cond.code y bt nL rt :: TB) := by
  intro w hw
  rcases List.mem_cons.mp hw with rfl | hw
  · exact ⟨List.mem_cons_of_mem _ h, TB_good _ h⟩
  · exact ⟨List.mem_cons_of_mem _ hw, TB_good _ hw⟩
theorem gUni0 {y : MethodName} {bt : ByteArray} {nL : Nat} {rt : Option FieldType} (h : Cond.code y bt nL rt ∈ TB) : GoodIn TB (Cond.code y bt nL rt :: TB) := by
  intro w hw
  rcases List.mem_cons.mp hw with rfl | hw
  · exact ⟨h, TB_good _ h⟩
  · exact ⟨hw, TB_good _ hw⟩
section VR
variable {E : VE} {y : MethodName} {bt : ByteArray} {nL : Nat} {rt : Option FieldType} {fr mc ms : Nat} {post : Option Value → va_W → Prop} {pc : Nat} {L : List (Option Value)} {st : List Value} {ws : va_W} {cl sl : Nat}
theorem V_iconst {n : Int} {v : Int32} (hd : decode bt pc = .ok (.iconst n, 1)) (hv : Int32.ofInt n = v) (k : V E y bt nL rt fr mc ms post (pc + 1) (L) (.int v :: st) (ws) (cl) (sl)) : V E y bt nL rt fr mc ms post (pc) (L) (st) (ws) (cl) (sl) := by
  intro p e s m args below meth c H locs ls A C hl hP hD hS
  exact lv_iconst C.1 C.2.1 hd hv (k p e s m args below meth c H locs ls A C hl hP hD hS)

theorem V_bipush {n : Int} {v : Int32} (hd : decode bt pc = .ok (.bipush n, 2)) (hv : (Int8.ofInt n).toInt32 = v) (k : V E y bt nL rt fr mc ms post (pc + 2) (L) (.int v :: st) (ws) (cl) (sl)) : V E y bt nL rt fr mc ms post (pc) (L) (st) (ws) (cl) (sl) := by
  intro p e s m args below meth c H locs ls A C hl hP hD hS
  exact lv_bipush C.1 C.2.1 hd hv (k p e s m args below meth c H locs ls A C hl hP hD hS)

theorem V_sipush {n : Int} {v : Int32} (hd : decode bt pc = .ok (.sipush n, 3)) (hv : (Int16.ofInt n).toInt32 = v) (k : V E y bt nL rt fr mc ms post (pc + 3) (L) (.int v :: st) (ws) (cl) (sl)) : V E y bt nL rt fr mc ms post (pc) (L) (st) (ws) (cl) (sl) := by
  intro p e s m args below meth c H locs ls A C hl hP hD hS
  exact lv_sipush C.1 C.2.1 hd hv (k p e s m args below meth c H locs ls A C hl hP hD hS)

theorem V_iload_n {j : Fin 4} {x : Int32} (hd : decode bt pc = .ok (.iload_n j, 1)) (hi : L[(j : Nat)]? = some (some (.int x))) (k : V E y bt nL rt fr mc ms post (pc + 1) (L) (.int x :: st) (ws) (cl) (sl)) : V E y bt nL rt fr mc ms post (pc) (L) (st) (ws) (cl) (sl) := by
  intro p e s m args below meth c H locs ls A C hl hP hD hS
  exact lv_iload_n C.1 C.2.1 hd rfl (hl.at hi) (k p e s m args below meth c H locs ls A C hl hP hD hS)

theorem V_iload {i : Nat} {x : Int32} (hd : decode bt pc = .ok (.iload i, 2)) (hi : L[i]? = some (some (.int x))) (k : V E y bt nL rt fr mc ms post (pc + 2) (L) (.int x :: st) (ws) (cl) (sl)) : V E y bt nL rt fr mc ms post (pc) (L) (st) (ws) (cl) (sl) := by
  intro p e s m args below meth c H locs ls A C hl hP hD hS
  exact lv_iload C.1 C.2.1 hd (hl.at hi) (k p e s m args below meth c H locs ls A C hl hP hD hS)

theorem V_istore_n {j : Fin 4} {x : Int32} (hd : decode bt pc = .ok (.istore_n j, 1)) (hn : (j : Nat) < nL) (k : V E y bt nL rt fr mc ms post (pc + 1) (L.set (j : Nat) (some (.int x))) (st) (ws) (cl) (sl)) : V E y bt nL rt fr mc ms post (pc) (L) (.int x :: st) (ws) (cl) (sl) := by
  intro p e s m args below meth c H locs ls A C hl hP hD hS
  exact lv_istore_n C.1 C.2.1 hd rfl hl.1 hn rfl (fun ls h2 => k p e s m args below meth c H locs ls A C (hl.put rfl h2) hP hD hS)

theorem V_istore {i : Nat} {x : Int32} (hd : decode bt pc = .ok (.istore i, 2)) (hn : i < nL) (k : V E y bt nL rt fr mc ms post (pc + 2) (L.set i (some (.int x))) (st) (ws) (cl) (sl)) : V E y bt nL rt fr mc ms post (pc) (L) (.int x :: st) (ws) (cl) (sl) := by
  intro p e s m args below meth c H locs ls A C hl hP hD hS
  exact lv_istore C.1 C.2.1 hd hl.1 hn rfl (fun ls h2 => k p e s m args below meth c H locs ls A C (hl.put rfl h2) hP hD hS)

theorem V_aload_n {j : Fin 4} {x : Nat} (hd : decode bt pc = .ok (.aload_n j, 1)) (hi : L[(j : Nat)]? = some (some (.ref x))) (k : V E y bt nL rt fr mc ms post (pc + 1) (L) (.ref x :: st) (ws) (cl) (sl)) : V E y bt nL rt fr mc ms post (pc) (L) (st) (ws) (cl) (sl) := by
  intro p e s m args below meth c H locs ls A C hl hP hD hS
  exact lv_aload_n C.1 C.2.1 hd rfl (hl.at hi) (k p e s m args below meth c H locs ls A C hl hP hD hS)

theorem V_aload {i : Nat} {x : Nat} (hd : decode bt pc = .ok (.aload i, 2)) (hi : L[i]? = some (some (.ref x))) (k : V E y bt nL rt fr mc ms post (pc + 2) (L) (.ref x :: st) (ws) (cl) (sl)) : V E y bt nL rt fr mc ms post (pc) (L) (st) (ws) (cl) (sl) := by
  intro p e s m args below meth c H locs ls A C hl hP hD hS
  exact lv_aload C.1 C.2.1 hd (hl.at hi) (k p e s m args below meth c H locs ls A C hl hP hD hS)

theorem V_astore_n {j : Fin 4} {x : Nat} (hd : decode bt pc = .ok (.astore_n j, 1)) (hn : (j : Nat) < nL) (k : V E y bt nL rt fr mc ms post (pc + 1) (L.set (j : Nat) (some (.ref x))) (st) (ws) (cl) (sl)) : V E y bt nL rt fr mc ms post (pc) (L) (.ref x :: st) (ws) (cl) (sl) := by
  intro p e s m args below meth c H locs ls A C hl hP hD hS
  exact lv_astore_n C.1 C.2.1 hd rfl hl.1 hn rfl (fun ls h2 => k p e s m args below meth c H locs ls A C (hl.put rfl h2) hP hD hS)

theorem V_astore {i : Nat} {x : Nat} (hd : decode bt pc = .ok (.astore i, 2)) (hn : i < nL) (k : V E y bt nL rt fr mc ms post (pc + 2) (L.set i (some (.ref x))) (st) (ws) (cl) (sl)) : V E y bt nL rt fr mc ms post (pc) (L) (.ref x :: st) (ws) (cl) (sl) := by
  intro p e s m args below meth c H locs ls A C hl hP hD hS
  exact lv_astore C.1 C.2.1 hd hl.1 hn rfl (fun ls h2 => k p e s m args below meth c H locs ls A C (hl.put rfl h2) hP hD hS)

theorem V_iinc {i : Nat} {n : Int} {x v : Int32} (hd : decode bt pc = .ok (.iinc i n, 3)) (hi : L[i]? = some (some (.int x))) (hv : x + Int32.ofInt n = v) (hn : i < nL) (k : V E y bt nL rt fr mc ms post (pc + 3) (L.set i (some (.int v))) (st) (ws) (cl) (sl)) : V E y bt nL rt fr mc ms post (pc) (L) (st) (ws) (cl) (sl) := by
  intro p e s m args below meth c H locs ls A C hl hP hD hS
  obtain ⟨kx, hkx⟩ := List.getElem?_of_mem (mem_lvOf.mpr hi)
  exact lv_iinc C.1 C.2.1 hd hl.1 hkx hv hn rfl (fun ls h2 => k p e s m args below meth c H locs ls A C (hl.put rfl h2) hP hD hS)

theorem V_iadd {x z : Int32} (hd : decode bt pc = .ok (.iadd, 1)) (k : V E y bt nL rt fr mc ms post (pc + 1) (L) (.int (x + z) :: st) (ws) (cl) (sl)) : V E y bt nL rt fr mc ms post (pc) (L) (.int z :: .int x :: st) (ws) (cl) (sl) := by
  intro p e s m args below meth c H locs ls A C hl hP hD hS
  exact lv_iadd C.1 C.2.1 hd (k p e s m args below meth c H locs ls A C hl hP hD hS)

theorem V_isub {x z : Int32} (hd : decode bt pc = .ok (.isub, 1)) (k : V E y bt nL rt fr mc ms post (pc + 1) (L) (.int (x - z) :: st) (ws) (cl) (sl)) : V E y bt nL rt fr mc ms post (pc) (L) (.int z :: .int x :: st) (ws) (cl) (sl) := by
  intro p e s m args below meth c H locs ls A C hl hP hD hS
  exact lv_isub C.1 C.2.1 hd (k p e s m args below meth c H locs ls A C hl hP hD hS)

theorem V_imul {x z : Int32} (hd : decode bt pc = .ok (.imul, 1)) (k : V E y bt nL rt fr mc ms post (pc + 1) (L) (.int (x * z) :: st) (ws) (cl) (sl)) : V E y bt nL rt fr mc ms post (pc) (L) (.int z :: .int x :: st) (ws) (cl) (sl) := by
  intro p e s m args below meth c H locs ls A C hl hP hD hS
  exact lv_imul C.1 C.2.1 hd (k p e s m args below meth c H locs ls A C hl hP hD hS)

theorem V_iand {x z : Int32} (hd : decode bt pc = .ok (.iand, 1)) (k : V E y bt nL rt fr mc ms post (pc + 1) (L) (.int (x &&& z) :: st) (ws) (cl) (sl)) : V E y bt nL rt fr mc ms post (pc) (L) (.int z :: .int x :: st) (ws) (cl) (sl) := by
  intro p e s m args below meth c H locs ls A C hl hP hD hS
  exact lv_iand C.1 C.2.1 hd (k p e s m args below meth c H locs ls A C hl hP hD hS)

theorem V_ior {x z : Int32} (hd : decode bt pc = .ok (.ior, 1)) (k : V E y bt nL rt fr mc ms post (pc + 1) (L) (.int (x ||| z) :: st) (ws) (cl) (sl)) : V E y bt nL rt fr mc ms post (pc) (L) (.int z :: .int x :: st) (ws) (cl) (sl) := by
  intro p e s m args below meth c H locs ls A C hl hP hD hS
  exact lv_ior C.1 C.2.1 hd (k p e s m args below meth c H locs ls A C hl hP hD hS)

theorem V_ixor {x z : Int32} (hd : decode bt pc = .ok (.ixor, 1)) (k : V E y bt nL rt fr mc ms post (pc + 1) (L) (.int (x ^^^ z) :: st) (ws) (cl) (sl)) : V E y bt nL rt fr mc ms post (pc) (L) (.int z :: .int x :: st) (ws) (cl) (sl) := by
  intro p e s m args below meth c H locs ls A C hl hP hD hS
  exact lv_ixor C.1 C.2.1 hd (k p e s m args below meth c H locs ls A C hl hP hD hS)

theorem V_ishl {x z : Int32} (hd : decode bt pc = .ok (.ishl, 1)) (k : V E y bt nL rt fr mc ms post (pc + 1) (L) (.int (x <<< (z &&& 31)) :: st) (ws) (cl) (sl)) : V E y bt nL rt fr mc ms post (pc) (L) (.int z :: .int x :: st) (ws) (cl) (sl) := by
  intro p e s m args below meth c H locs ls A C hl hP hD hS
  exact lv_ishl C.1 C.2.1 hd (k p e s m args below meth c H locs ls A C hl hP hD hS)

theorem V_ishr {x z : Int32} (hd : decode bt pc = .ok (.ishr, 1)) (k : V E y bt nL rt fr mc ms post (pc + 1) (L) (.int (x >>> (z &&& 31)) :: st) (ws) (cl) (sl)) : V E y bt nL rt fr mc ms post (pc) (L) (.int z :: .int x :: st) (ws) (cl) (sl) := by
  intro p e s m args below meth c H locs ls A C hl hP hD hS
  exact lv_ishr C.1 C.2.1 hd (k p e s m args below meth c H locs ls A C hl hP hD hS)

theorem V_idiv {x z : Int32} (hd : decode bt pc = .ok (.idiv, 1)) (hne : ¬ z = 0) (k : V E y bt nL rt fr mc ms post (pc + 1) (L) (.int (x / z) :: st) (ws) (cl) (sl)) : V E y bt nL rt fr mc ms post (pc) (L) (.int z :: .int x :: st) (ws) (cl) (sl) := by
  intro p e s m args below meth c H locs ls A C hl hP hD hS
  exact lv_idiv C.1 C.2.1 hd hne (k p e s m args below meth c H locs ls A C hl hP hD hS)

theorem V_irem {x z : Int32} (hd : decode bt pc = .ok (.irem, 1)) (hne : ¬ z = 0) (k : V E y bt nL rt fr mc ms post (pc + 1) (L) (.int (x - x / z * z) :: st) (ws) (cl) (sl)) : V E y bt nL rt fr mc ms post (pc) (L) (.int z :: .int x :: st) (ws) (cl) (sl) := by
  intro p e s m args below meth c H locs ls A C hl hP hD hS
  exact lv_irem C.1 C.2.1 hd hne (k p e s m args below meth c H locs ls A C hl hP hD hS)

theorem V_iushr {x z v : Int32} (hd : decode bt pc = .ok (.iushr, 1)) (hv : (x.toUInt32 >>> (z.toUInt32 &&& Int32.toUInt32 31)).toInt32 = v) (k : V E y bt nL rt fr mc ms post (pc + 1) (L) (.int v :: st) (ws) (cl) (sl)) : V E y bt nL rt fr mc ms post (pc) (L) (.int z :: .int x :: st) (ws) (cl) (sl) := by
  intro p e s m args below meth c H locs ls A C hl hP hD hS
  exact lv_iushr C.1 C.2.1 hd hv (k p e s m args below meth c H locs ls A C hl hP hD hS)

theorem V_ineg {x : Int32} (hd : decode bt pc = .ok (.ineg, 1)) (k : V E y bt nL rt fr mc ms post (pc + 1) (L) (.int (-x) :: st) (ws) (cl) (sl)) : V E y bt nL rt fr mc ms post (pc) (L) (.int x :: st) (ws) (cl) (sl) := by
  intro p e s m args below meth c H locs ls A C hl hP hD hS
  exact lv_ineg C.1 C.2.1 hd (k p e s m args below meth c H locs ls A C hl hP hD hS)

theorem V_i2l {x : Int32} (hd : decode bt pc = .ok (.i2l, 1)) (k : V E y bt nL rt fr mc ms post (pc + 1) (L) (.long x.toInt64 :: st) (ws) (cl) (sl)) : V E y bt nL rt fr mc ms post (pc) (L) (.int x :: st) (ws) (cl) (sl) := by
  intro p e s m args below meth c H locs ls A C hl hP hD hS
  exact lv_i2l C.1 C.2.1 hd rfl (k p e s m args below meth c H locs ls A C hl hP hD hS)

theorem V_dup {a : Value} (hd : decode bt pc = .ok (.dup, 1)) (ha : a.category = 1) (k : V E y bt nL rt fr mc ms post (pc + 1) (L) (a :: a :: st) (ws) (cl) (sl)) : V E y bt nL rt fr mc ms post (pc) (L) (a :: st) (ws) (cl) (sl) := by
  intro p e s m args below meth c H locs ls A C hl hP hD hS
  exact lv_dup C.1 C.2.1 hd ha (k p e s m args below meth c H locs ls A C hl hP hD hS)

theorem V_pop {a : Value} (hd : decode bt pc = .ok (.pop, 1)) (ha : a.category = 1) (k : V E y bt nL rt fr mc ms post (pc + 1) (L) (st) (ws) (cl) (sl)) : V E y bt nL rt fr mc ms post (pc) (L) (a :: st) (ws) (cl) (sl) := by
  intro p e s m args below meth c H locs ls A C hl hP hD hS
  exact lv_pop C.1 C.2.1 hd ha (k p e s m args below meth c H locs ls A C hl hP hD hS)

theorem V_dup2 {a b : Value} (hd : decode bt pc = .ok (.dup2, 1)) (ha : a.category = 1) (hb : b.category = 1) (k : V E y bt nL rt fr mc ms post (pc + 1) (L) (a :: b :: a :: b :: st) (ws) (cl) (sl)) : V E y bt nL rt fr mc ms post (pc) (L) (a :: b :: st) (ws) (cl) (sl) := by
  intro p e s m args below meth c H locs ls A C hl hP hD hS
  exact lv_dup2_11 C.1 C.2.1 hd ha hb (k p e s m args below meth c H locs ls A C hl hP hD hS)

theorem V_dup_x1 {a b : Value} (hd : decode bt pc = .ok (.dup_x1, 1)) (ha : a.category = 1) (hb : b.category = 1) (k : V E y bt nL rt fr mc ms post (pc + 1) (L) (a :: b :: a :: st) (ws) (cl) (sl)) : V E y bt nL rt fr mc ms post (pc) (L) (a :: b :: st) (ws) (cl) (sl) := by
  intro p e s m args below meth c H locs ls A C hl hP hD hS
  exact lv_dup_x1 C.1 C.2.1 hd ha hb (k p e s m args below meth c H locs ls A C hl hP hD hS)

theorem V_if_eq {x : Int32} {off : Int} (tgt : Nat) (hd : decode bt pc = .ok (.ifCond .eq off, 3)) (ht : (pc : Int) + off = (tgt : Int)) (kt : x = 0 → V E y bt nL rt fr mc ms post (tgt) (L) (st) (ws) (cl) (sl)) (kf : ¬ x = 0 → V E y bt nL rt fr mc ms post (pc + 3) (L) (st) (ws) (cl) (sl)) : V E y bt nL rt fr mc ms post (pc) (L) (.int x :: st) (ws) (cl) (sl) := by
  intro p e s m args below meth c H locs ls A C hl hP hD hS
  exact lv_if_eq C.1 C.2.1 hd ht (fun h => kt h p e s m args below meth c H locs ls A C hl hP hD hS) (fun h => kf h p e s m args below meth c H locs ls A C hl hP hD hS)

theorem V_icmp_eq {x z : Int32} {off : Int} (tgt : Nat) (hd : decode bt pc = .ok (.if_icmp .eq off, 3)) (ht : (pc : Int) + off = (tgt : Int)) (kt : x = z → V E y bt nL rt fr mc ms post (tgt) (L) (st) (ws) (cl) (sl)) (kf : ¬ x = z → V E y bt nL rt fr mc ms post (pc + 3) (L) (st) (ws) (cl) (sl)) : V E y bt nL rt fr mc ms post (pc) (L) (.int z :: .int x :: st) (ws) (cl) (sl) := by
  intro p e s m args below meth c H locs ls A C hl hP hD hS
  exact lv_icmp_eq C.1 C.2.1 hd ht (fun h => kt h p e s m args below meth c H locs ls A C hl hP hD hS) (fun h => kf h p e s m args below meth c H locs ls A C hl hP hD hS)

theorem V_if_ne {x : Int32} {off : Int} (tgt : Nat) (hd : decode bt pc = .ok (.ifCond .ne off, 3)) (ht : (pc : Int) + off = (tgt : Int)) (kt : ¬ x = 0 → V E y bt nL rt fr mc ms post (tgt) (L) (st) (ws) (cl) (sl)) (kf : x = 0 → V E y bt nL rt fr mc ms post (pc + 3) (L) (st) (ws) (cl) (sl)) : V E y bt nL rt fr mc ms post (pc) (L) (.int x :: st) (ws) (cl) (sl) := by
  intro p e s m args below meth c H locs ls A C hl hP hD hS
  exact lv_if_ne C.1 C.2.1 hd ht (fun h => kt h p e s m args below meth c H locs ls A C hl hP hD hS) (fun h => kf h p e s m args below meth c H locs ls A C hl hP hD hS)

theorem V_icmp_ne {x z : Int32} {off : Int} (tgt : Nat) (hd : decode bt pc = .ok (.if_icmp .ne off, 3)) (ht : (pc : Int) + off = (tgt : Int)) (kt : ¬ x = z → V E y bt nL rt fr mc ms post (tgt) (L) (st) (ws) (cl) (sl)) (kf : x = z → V E y bt nL rt fr mc ms post (pc + 3) (L) (st) (ws) (cl) (sl)) : V E y bt nL rt fr mc ms post (pc) (L) (.int z :: .int x :: st) (ws) (cl) (sl) := by
  intro p e s m args below meth c H locs ls A C hl hP hD hS
  exact lv_icmp_ne C.1 C.2.1 hd ht (fun h => kt h p e s m args below meth c H locs ls A C hl hP hD hS) (fun h => kf h p e s m args below meth c H locs ls A C hl hP hD hS)

theorem V_if_lt {x : Int32} {off : Int} (tgt : Nat) (hd : decode bt pc = .ok (.ifCond .lt off, 3)) (ht : (pc : Int) + off = (tgt : Int)) (kt : x < 0 → V E y bt nL rt fr mc ms post (tgt) (L) (st) (ws) (cl) (sl)) (kf : ¬ x < 0 → V E y bt nL rt fr mc ms post (pc + 3) (L) (st) (ws) (cl) (sl)) : V E y bt nL rt fr mc ms post (pc) (L) (.int x :: st) (ws) (cl) (sl) := by
  intro p e s m args below meth c H locs ls A C hl hP hD hS
  exact lv_if_lt C.1 C.2.1 hd ht (fun h => kt h p e s m args below meth c H locs ls A C hl hP hD hS) (fun h => kf h p e s m args below meth c H locs ls A C hl hP hD hS)

theorem V_icmp_lt {x z : Int32} {off : Int} (tgt : Nat) (hd : decode bt pc = .ok (.if_icmp .lt off, 3)) (ht : (pc : Int) + off = (tgt : Int)) (kt : x < z → V E y bt nL rt fr mc ms post (tgt) (L) (st) (ws) (cl) (sl)) (kf : ¬ x < z → V E y bt nL rt fr mc ms post (pc + 3) (L) (st) (ws) (cl) (sl)) : V E y bt nL rt fr mc ms post (pc) (L) (.int z :: .int x :: st) (ws) (cl) (sl) := by
  intro p e s m args below meth c H locs ls A C hl hP hD hS
  exact lv_icmp_lt C.1 C.2.1 hd ht (fun h => kt h p e s m args below meth c H locs ls A C hl hP hD hS) (fun h => kf h p e s m args below meth c H locs ls A C hl hP hD hS)

theorem V_if_ge {x : Int32} {off : Int} (tgt : Nat) (hd : decode bt pc = .ok (.ifCond .ge off, 3)) (ht : (pc : Int) + off = (tgt : Int)) (kt : 0 ≤ x → V E y bt nL rt fr mc ms post (tgt) (L) (st) (ws) (cl) (sl)) (kf : ¬ 0 ≤ x → V E y bt nL rt fr mc ms post (pc + 3) (L) (st) (ws) (cl) (sl)) : V E y bt nL rt fr mc ms post (pc) (L) (.int x :: st) (ws) (cl) (sl) := by
  intro p e s m args below meth c H locs ls A C hl hP hD hS
  exact lv_if_ge C.1 C.2.1 hd ht (fun h => kt h p e s m args below meth c H locs ls A C hl hP hD hS) (fun h => kf h p e s m args below meth c H locs ls A C hl hP hD hS)

theorem V_icmp_ge {x z : Int32} {off : Int} (tgt : Nat) (hd : decode bt pc = .ok (.if_icmp .ge off, 3)) (ht : (pc : Int) + off = (tgt : Int)) (kt : z ≤ x → V E y bt nL rt fr mc ms post (tgt) (L) (st) (ws) (cl) (sl)) (kf : ¬ z ≤ x → V E y bt nL rt fr mc ms post (pc + 3) (L) (st) (ws) (cl) (sl)) : V E y bt nL rt fr mc ms post (pc) (L) (.int z :: .int x :: st) (ws) (cl) (sl) := by
  intro p e s m args below meth c H locs ls A C hl hP hD hS
  exact lv_icmp_ge C.1 C.2.1 hd ht (fun h => kt h p e s m args below meth c H locs ls A C hl hP hD hS) (fun h => kf h p e s m args below meth c H locs ls A C hl hP hD hS)

theorem V_if_gt {x : Int32} {off : Int} (tgt : Nat) (hd : decode bt pc = .ok (.ifCond .gt off, 3)) (ht : (pc : Int) + off = (tgt : Int)) (kt : 0 < x → V E y bt nL rt fr mc ms post (tgt) (L) (st) (ws) (cl) (sl)) (kf : ¬ 0 < x → V E y bt nL rt fr mc ms post (pc + 3) (L) (st) (ws) (cl) (sl)) : V E y bt nL rt fr mc ms post (pc) (L) (.int x :: st) (ws) (cl) (sl) := by
  intro p e s m args below meth c H locs ls A C hl hP hD hS
  exact lv_if_gt C.1 C.2.1 hd ht (fun h => kt h p e s m args below meth c H locs ls A C hl hP hD hS) (fun h => kf h p e s m args below meth c H locs ls A C hl hP hD hS)

theorem V_icmp_gt {x z : Int32} {off : Int} (tgt : Nat) (hd : decode bt pc = .ok (.if_icmp .gt off, 3)) (ht : (pc : Int) + off = (tgt : Int)) (kt : z < x → V E y bt nL rt fr mc ms post (tgt) (L) (st) (ws) (cl) (sl)) (kf : ¬ z < x → V E y bt nL rt fr mc ms post (pc + 3) (L) (st) (ws) (cl) (sl)) : V E y bt nL rt fr mc ms post (pc) (L) (.int z :: .int x :: st) (ws) (cl) (sl) := by
  intro p e s m args below meth c H locs ls A C hl hP hD hS
  exact lv_icmp_gt C.1 C.2.1 hd ht (fun h => kt h p e s m args below meth c H locs ls A C hl hP hD hS) (fun h => kf h p e s m args below meth c H locs ls A C hl hP hD hS)

theorem V_if_le {x : Int32} {off : Int} (tgt : Nat) (hd : decode bt pc = .ok (.ifCond .le off, 3)) (ht : (pc : Int) + off = (tgt : Int)) (kt : x ≤ 0 → V E y bt nL rt fr mc ms post (tgt) (L) (st) (ws) (cl) (sl)) (kf : ¬ x ≤ 0 → V E y bt nL rt fr mc ms post (pc + 3) (L) (st) (ws) (cl) (sl)) : V E y bt nL rt fr mc ms post (pc) (L) (.int x :: st) (ws) (cl) (sl) := by
  intro p e s m args below meth c H locs ls A C hl hP hD hS
  exact lv_if_le C.1 C.2.1 hd ht (fun h => kt h p e s m args below meth c H locs ls A C hl hP hD hS) (fun h => kf h p e s m args below meth c H locs ls A C hl hP hD hS)

theorem V_icmp_le {x z : Int32} {off : Int} (tgt : Nat) (hd : decode bt pc = .ok (.if_icmp .le off, 3)) (ht : (pc : Int) + off = (tgt : Int)) (kt : x ≤ z → V E y bt nL rt fr mc ms post (tgt) (L) (st) (ws) (cl) (sl)) (kf : ¬ x ≤ z → V E y bt nL rt fr mc ms post (pc + 3) (L) (st) (ws) (cl) (sl)) : V E y bt nL rt fr mc ms post (pc) (L) (.int z :: .int x :: st) (ws) (cl) (sl) := by
  intro p e s m args below meth c H locs ls A C hl hP hD hS
  exact lv_icmp_le C.1 C.2.1 hd ht (fun h => kt h p e s m args below meth c H locs ls A C hl hP hD hS) (fun h => kf h p e s m args below meth c H locs ls A C hl hP hD hS)

theorem V_goto {off : Int} (tgt : Nat) (hd : decode bt pc = .ok (.goto off, 3)) (ht : (pc : Int) + off = (tgt : Int)) (k : V E y bt nL rt fr mc ms post (tgt) (L) (st) (ws) (cl) (sl)) : V E y bt nL rt fr mc ms post (pc) (L) (st) (ws) (cl) (sl) := by
  intro p e s m args below meth c H locs ls A C hl hP hD hS
  exact lv_goto C.1 C.2.1 hd ht (k p e s m args below meth c H locs ls A C hl hP hD hS)

theorem V_tableIn {dflt lo hi : Int} {offs : Array Int} {len : Nat} {x : Int32} {off : Int} (tgt : Nat) (hd : decode bt pc = .ok (.tableswitch dflt lo hi offs, len)) (h1 : ¬ x.toInt < lo) (h2 : ¬ hi < x.toInt) (ho : offs[(x.toInt - lo).toNat]? = some off) (ht : (pc : Int) + off = (tgt : Int)) (k : V E y bt nL rt fr mc ms post (tgt) (L) (st) (ws) (cl) (sl)) : V E y bt nL rt fr mc ms post (pc) (L) (.int x :: st) (ws) (cl) (sl) := by
  intro p e s m args below meth c H locs ls A C hl hP hD hS
  exact lv_tableIn C.1 C.2.1 hd h1 h2 ho ht (k p e s m args below meth c H locs ls A C hl hP hD hS)

theorem V_tableOut {dflt lo hi : Int} {offs : Array Int} {len : Nat} {x : Int32} (tgt : Nat) (hd : decode bt pc = .ok (.tableswitch dflt lo hi offs, len)) (h : x.toInt < lo ∨ hi < x.toInt) (ht : (pc : Int) + dflt = (tgt : Int)) (k : V E y bt nL rt fr mc ms post (tgt) (L) (st) (ws) (cl) (sl)) : V E y bt nL rt fr mc ms post (pc) (L) (.int x :: st) (ws) (cl) (sl) := by
  intro p e s m args below meth c H locs ls A C hl hP hD hS
  exact lv_tableOut C.1 C.2.1 hd h ht (k p e s m args below meth c H locs ls A C hl hP hD hS)

theorem V_ldcw {ix : Nat} {v : Int32} (hc : Cond.constant y.cls ix v ∈ TB) (hd : decode bt pc = .ok (.ldc_w ix, 3)) (k : V E y bt nL rt fr mc ms post (pc + 3) (L) (.int v :: st) (ws) (cl) (sl)) : V E y bt nL rt fr mc ms post (pc) (L) (st) (ws) (cl) (sl) := by
  intro p e s m args below meth c H locs ls A C hl hP hD hS
  exact lv_ldcw C.1 C.2.1 C.2.2.2.2.1 (C.2.2.2.2.2.1 _ hc) hd (k p e s m args below meth c H locs ls A C hl hP hD hS)

theorem V_ldc {ix : Nat} {v : Int32} (hc : Cond.constant y.cls ix v ∈ TB) (hd : decode bt pc = .ok (.ldc ix, 2)) (k : V E y bt nL rt fr mc ms post (pc + 2) (L) (.int v :: st) (ws) (cl) (sl)) : V E y bt nL rt fr mc ms post (pc) (L) (st) (ws) (cl) (sl) := by
  intro p e s m args below meth c H locs ls A C hl hP hD hS
  exact lv_ldc C.1 C.2.1 C.2.2.2.2.1 (C.2.2.2.2.2.1 _ hc) hd (k p e s m args below meth c H locs ls A C hl hP hD hS)

theorem V_topi {x : Int32} (k : ∀ z : Int32, z = x → V E y bt nL rt fr mc ms post (pc) (L) (.int z :: st) (ws) (cl) (sl)) : V E y bt nL rt fr mc ms post (pc) (L) (.int x :: st) (ws) (cl) (sl) := by
  intro p e s m args below meth c H locs ls A C hl hP hD hS
  exact k x rfl p e s m args below meth c H locs ls A C hl hP hD hS

theorem V_get (q : Nat) {ix ci j a : Nat} {fs : List Value} {v : Value} (hF : FL y.cls ix ci j) (hd : decode bt pc = .ok (.getfield ix, 3)) (he : ws[q]? = some (a, .inr (ci, fs))) (hv : fs[j]? = some v) (k : V E y bt nL rt fr mc ms post (pc + 3) (L) (v :: st) (ws) (cl) (sl)) : V E y bt nL rt fr mc ms post (pc) (L) (.ref a :: st) (ws) (cl) (sl) := by
  intro p e s m args below meth c H locs ls A C hl hP hD hS
  obtain ⟨C9, T9, N9, hc, hk, hin, hlk⟩ := hF
  exact va_get C.1 C.2.1 C.2.2.2.2.2.1 hin C.2.2.2.2.1 C.2.2.2.2.2.2.2.2.1 hP q he hc j hk (C.2.2.2.2.2.1 _ hlk) (fun _ h9 => h9) hv hd (k p e s m args below meth c H locs ls A C hl hP hD hS)

theorem V_put (q : Nat) {ix ci j a : Nat} {fs : List Value} {v : Value} {ty : FieldType} (hF : FP y.cls ix ci j ty false) (hd : decode bt pc = .ok (.putfield ix, 3)) (he : ws[q]? = some (a, .inr (ci, fs))) (hn : narrow ty v = v) (hf : fits ty v = true) (hj : j < fs.length) (k : V E y bt nL rt fr mc ms post (pc + 3) (L) (st) (ws.set q (a, .inr (ci, fs.set j v))) (cl) (sl)) : V E y bt nL rt fr mc ms post (pc) (L) (v :: .ref a :: st) (ws) (cl) (sl) := by
  intro p e s m args below meth c H locs ls A C hl hP hD hS
  obtain ⟨C9, T9, N9, ty0, hc, hk, hin, hlk, hty, hnm, hfin, hpd, -⟩ := hF
  exact va_put C.1 C.2.1 C.2.2.2.2.2.1 hin ty0 hty hnm C.2.2.2.2.1 C.2.2.2.2.2.2.2.2.1 hP hD hS q he hc j hk (C.2.2.2.2.2.1 _ hlk) (fun _ h9 => h9) hfin hpd hn hf hj hd (fun H locs hP hD hS => k p e s m args below meth c H locs ls A C hl hP hD hS)

theorem V_putF (q : Nat) {ix ci j a : Nat} {fs : List Value} {v : Value} {ty : FieldType} (hF : FP y.cls ix ci j ty true) (hy : y.name = "<init>") (hd : decode bt pc = .ok (.putfield ix, 3)) (he : ws[q]? = some (a, .inr (ci, fs))) (hn : narrow ty v = v) (hf : fits ty v = true) (hj : j < fs.length) (k : V E y bt nL rt fr mc ms post (pc + 3) (L) (st) (ws.set q (a, .inr (ci, fs.set j v))) (cl) (sl)) : V E y bt nL rt fr mc ms post (pc) (L) (v :: .ref a :: st) (ws) (cl) (sl) := by
  intro p e s m args below meth c H locs ls A C hl hP hD hS
  obtain ⟨C9, T9, N9, ty0, hc, hk, hin, hlk, hty, hnm, hfin, hpd, hdecl⟩ := hF
  exact va_putF C.1 C.2.1 C.2.2.2.2.2.1 hin ty0 hty hnm C.2.2.2.2.1 C.2.2.2.2.2.2.2.2.1 hP hD hS q he hc j hk (C.2.2.2.2.2.1 _ hlk) (fun _ h9 => h9) hfin (C.2.2.2.2.2.2.2.1.trans hy) (hdecl rfl) hpd hn hf hj hd (fun H locs hP hD hS => k p e s m args below meth c H locs ls A C hl hP hD hS)

theorem V_iald (q : Nat) {a n : Nat} {f : Nat → Int32} {i : Int32} (hd : decode bt pc = .ok (.iaload, 1)) (he : ws[q]? = some (a, .inl (cI E, n, .inl f))) (hin : vp_in i n) (k : V E y bt nL rt fr mc ms post (pc + 1) (L) (.int (f i.toNatClampNeg) :: st) (ws) (cl) (sl)) : V E y bt nL rt fr mc ms post (pc) (L) (.int i :: .ref a :: st) (ws) (cl) (sl) := by
  intro p e s m args below meth c H locs ls A C hl hP hD hS
  exact va_iald C.1 C.2.1 C.2.2.2.2.2.2.2.2.1 hP q 0 he rfl hin hd (k p e s m args below meth c H locs ls A C hl hP hD hS)

theorem V_zald (q : Nat) {a n : Nat} {f : Nat → Int32} {i : Int32} (hd : decode bt pc = .ok (.baload, 1)) (he : ws[q]? = some (a, .inl (cZ E, n, .inl f))) (hin : vp_in i n) (k : V E y bt nL rt fr mc ms post (pc + 1) (L) (.int (f i.toNatClampNeg) :: st) (ws) (cl) (sl)) : V E y bt nL rt fr mc ms post (pc) (L) (.int i :: .ref a :: st) (ws) (cl) (sl) := by
  intro p e s m args below meth c H locs ls A C hl hP hD hS
  exact va_zald C.1 C.2.1 C.2.2.2.2.2.2.2.2.1 hP q 1 he rfl hin hd (k p e s m args below meth c H locs ls A C hl hP hD hS)

theorem V_iast (q : Nat) {a n : Nat} {f : Nat → Int32} {i x : Int32} (hd : decode bt pc = .ok (.iastore, 1)) (he : ws[q]? = some (a, .inl (cI E, n, .inl f))) (hin : vp_in i n) (k : V E y bt nL rt fr mc ms post (pc + 1) (L) (st) (ws.set q (a, .inl (cI E, n, .inl (upd f i.toNatClampNeg x)))) (cl) (sl)) : V E y bt nL rt fr mc ms post (pc) (L) (.int x :: .int i :: .ref a :: st) (ws) (cl) (sl) := by
  intro p e s m args below meth c H locs ls A C hl hP hD hS
  exact va_iast C.1 C.2.1 C.2.2.2.2.2.2.2.2.1 hP hD hS q 0 he rfl hin hd (fun H locs hP hD hS => k p e s m args below meth c H locs ls A C hl hP hD hS)

theorem V_zast (q : Nat) {a n : Nat} {f : Nat → Int32} {i x : Int32} (hd : decode bt pc = .ok (.bastore, 1)) (he : ws[q]? = some (a, .inl (cZ E, n, .inl f))) (hin : vp_in i n) (k : V E y bt nL rt fr mc ms post (pc + 1) (L) (st) (ws.set q (a, .inl (cZ E, n, .inl (upd f i.toNatClampNeg (vp_nar .boolean x))))) (cl) (sl)) : V E y bt nL rt fr mc ms post (pc) (L) (.int x :: .int i :: .ref a :: st) (ws) (cl) (sl) := by
  intro p e s m args below meth c H locs ls A C hl hP hD hS
  exact va_zast C.1 C.2.1 C.2.2.2.2.2.2.2.2.1 hP hD hS q 1 he rfl hin hd (fun H locs hP hD hS => k p e s m args below meth c H locs ls A C hl hP hD hS)

theorem V_alenI (q : Nat) {a : Nat} {x : vp_A} {v : Int32} (hd : decode bt pc = .ok (.arraylength, 1)) (he : ws[q]? = some (a, .inl (cI E, x))) (hv : Int32.ofNat x.1 = v) (k : V E y bt nL rt fr mc ms post (pc + 1) (L) (.int v :: st) (ws) (cl) (sl)) : V E y bt nL rt fr mc ms post (pc) (L) (.ref a :: st) (ws) (cl) (sl) := by
  intro p e s m args below meth c H locs ls A C hl hP hD hS
  exact va_alen C.1 C.2.1 C.2.2.2.2.2.2.2.2.1 hP q 0 he rfl hv hd (k p e s m args below meth c H locs ls A C hl hP hD hS)

theorem V_new {ix ci : Nat} {Cn : String} {T : u_T} {N : Nat} {ty : Nat → FieldType} {fs : List Value} (hin : ∀ w ∈ u_ws Cn T N, w ∈ TB) (hty : ∀ j, j < N → parseFieldDescriptor (T j).2.2.1 = some (ty j)) (hlk : Cond.classLink y.cls ix Cn ∈ TB) (hins : Cond.instantiable Cn N ∈ TB) (hini : Cond.initialized Cn ∈ TB) (hc : CL[ci]? = some (Cn, T, N)) (hfs : ∀ j, j < N → defaultValue (ty j) = vp_V fs j) (hd : decode bt pc = .ok (.new ix, 3)) (hcl : cl + 1 ≤ mc) (hsl : sl + N ≤ ms) (k : ∀ q : Nat, V E y bt nL rt fr mc ms post (pc + 3) (L) (.ref q :: st) (ws ++ [(q, .inr (ci, fs))]) (cl + 1) (sl + N)) : V E y bt nL rt fr mc ms post (pc) (L) (st) (ws) (cl) (sl) := by
  intro p e s m args below meth c H locs ls A C hl hP hD hS
  exact va_new C.1 C.2.1 C.2.2.2.2.2.1 hin ty hty C.2.2.2.2.1 (C.2.2.2.2.2.1 _ hlk) (C.2.2.2.2.2.1 _ hins) (C.2.2.2.2.2.1 _ hini) C.2.2.2.2.2.2.2.2.1 hP hD hS C.2.2.2.2.2.2.2.2.2.1 hc hfs hcl hsl hd (fun q H hP hD hS => k q p e s m args below meth c H locs ls A C hl hP hD hS)

theorem V_newaI {n : Int32} {N : Nat} (harr : Cond.arrayClass .int ∈ TB) (hd : decode bt pc = .ok (.newarray .int, 2)) (hn : ¬ n < 0) (hN : n.toNatClampNeg = N) (hb : N * componentBytes .int ≤ 536870912) (hcl : cl + 1 ≤ mc) (hsl : sl + N ≤ ms) (k : ∀ q : Nat, V E y bt nL rt fr mc ms post (pc + 2) (L) (.ref q :: st) (ws ++ [(q, .inl (cI E, N, .inl (fun _ => 0)))]) (cl + 1) (sl + N)) : V E y bt nL rt fr mc ms post (pc) (L) (.int n :: st) (ws) (cl) (sl) := by
  intro p e s m args below meth c H locs ls A C hl hP hD hS
  refine va_newa (atype := .int) (ty := .int) (a0 := (N, .inl (fun _ => 0))) C.1 C.2.1 (C.2.2.2.2.2.1 _ harr) rfl C.2.2.2.2.2.2.2.2.1 hP hD hS C.2.2.2.2.2.2.2.2.2.1 (fun _ => rfl) hn hN hb hcl hsl hd (fun q cA H hK hP hD hS => ?_)
  have e1 := (hK.2 4 (cA, .int) rfl).2
  have e2 := (hK.2 0 (cI E, .int) rfl).2
  have e3 : cA = cI E := Option.some.inj (e1.symm.trans e2)
  subst e3
  exact k q p e s m args below meth c H locs ls A C hl hP hD hS

theorem V_newaZ {n : Int32} {N : Nat} (harr : Cond.arrayClass .boolean ∈ TB) (hd : decode bt pc = .ok (.newarray .boolean, 2)) (hn : ¬ n < 0) (hN : n.toNatClampNeg = N) (hb : N * componentBytes .boolean ≤ 536870912) (hcl : cl + 1 ≤ mc) (hsl : sl + N ≤ ms) (k : ∀ q : Nat, V E y bt nL rt fr mc ms post (pc + 2) (L) (.ref q :: st) (ws ++ [(q, .inl (cZ E, N, .inl (fun _ => 0)))]) (cl + 1) (sl + N)) : V E y bt nL rt fr mc ms post (pc) (L) (.int n :: st) (ws) (cl) (sl) := by
  intro p e s m args below meth c H locs ls A C hl hP hD hS
  refine va_newa (atype := .boolean) (ty := .boolean) (a0 := (N, .inl (fun _ => 0))) C.1 C.2.1 (C.2.2.2.2.2.1 _ harr) rfl C.2.2.2.2.2.2.2.2.1 hP hD hS C.2.2.2.2.2.2.2.2.2.1 (fun _ => rfl) hn hN hb hcl hsl hd (fun q cA H hK hP hD hS => ?_)
  have e1 := (hK.2 4 (cA, .boolean) rfl).2
  have e2 := (hK.2 1 (cZ E, .boolean) rfl).2
  have e3 : cA = cZ E := Option.some.inj (e1.symm.trans e2)
  subst e3
  exact k q p e s m args below meth c H locs ls A C hl hP hD hS

theorem V_newaJ {n : Int32} {N : Nat} (harr : Cond.arrayClass .long ∈ TB) (hd : decode bt pc = .ok (.newarray .long, 2)) (hn : ¬ n < 0) (hN : n.toNatClampNeg = N) (hb : N * componentBytes .long ≤ 536870912) (hcl : cl + 1 ≤ mc) (hsl : sl + N ≤ ms) (k : ∀ q : Nat, V E y bt nL rt fr mc ms post (pc + 2) (L) (.ref q :: st) (ws ++ [(q, .inl (cJ E, N, .inr (.inl (fun _ => 0))))]) (cl + 1) (sl + N)) : V E y bt nL rt fr mc ms post (pc) (L) (.int n :: st) (ws) (cl) (sl) := by
  intro p e s m args below meth c H locs ls A C hl hP hD hS
  refine va_newa (atype := .long) (ty := .long) (a0 := (N, .inr (.inl (fun _ => 0)))) C.1 C.2.1 (C.2.2.2.2.2.1 _ harr) rfl C.2.2.2.2.2.2.2.2.1 hP hD hS C.2.2.2.2.2.2.2.2.2.1 (fun _ => rfl) hn hN hb hcl hsl hd (fun q cA H hK hP hD hS => ?_)
  have e1 := (hK.2 4 (cA, .long) rfl).2
  have e2 := (hK.2 2 (cJ E, .long) rfl).2
  have e3 : cA = cJ E := Option.some.inj (e1.symm.trans e2)
  subst e3
  exact k q p e s m args below meth c H locs ls A C hl hP hD hS

theorem V_objInit {ix a : Nat} (hlk : Cond.methodLink y.cls ix objectInit ∈ TB) (hi : Cond.instanceMethod objectInit ∈ TB) (hc : Cond.code objectInit ⟨#[0xb1]⟩ 1 none ∈ TB) (hd : decode bt pc = .ok (.invokespecial ix, 3)) (hfr : 1 ≤ fr) (hW : (st.map fun v => v.category).sum ≤ 8) (k : V E y bt nL rt fr mc ms post (pc + 3) (L) (st) (ws) (cl) (sl)) : V E y bt nL rt fr mc ms post (pc) (L) (.ref a :: st) (ws) (cl) (sl) := by
  intro p e s m args below meth c H locs ls A C hl hP hD hS
  refine W.objInit C.1 C.2.1 C.2.2.2.2.1 (C.2.2.2.2.2.1 _ hlk) (C.2.2.2.2.2.1 _ hi) (C.2.2.2.2.2.1 _ hc) rfl (by rw [C.2.2.2.1]; exact hl.1.1) rfl hd hfr ?_ (k p e s m args below meth c H locs ls A C hl hP hD hS)
  show 2 * 0 + _ + 12 ≤ 40 * fr
  omega

theorem V_iret {v : Int32} (hd : decode bt pc = .ok (.ireturn, 1)) (hrt : rt = some .int) (hcl : cl ≤ mc) (hsl : sl ≤ ms) (hpost : post (some (.int v)) ws) : V E y bt nL rt fr mc ms post (pc) (L) ([.int v]) (ws) (cl) (sl) := by
  intro p e s m args below meth c H locs ls A C hl hP hD hS
  have hlk := C.2.2.2.2.2.2.1
  refine W.widen hcl hsl ?_
  exact W.iret C.1 C.2.1 (C.2.2.1.trans hrt) (fun t ht _ => ⟨⟨_, ws, rfl, hpost, by rw [ht]; exact hP, hD⟩, hS.F ht⟩) hS.2.2 hd hlk

theorem V_zret {v : Int32} (hd : decode bt pc = .ok (.ireturn, 1)) (hrt : rt = some .boolean) (hv : v = 0 ∨ v = 1) (hcl : cl ≤ mc) (hsl : sl ≤ ms) (hpost : post (some (.int v)) ws) : V E y bt nL rt fr mc ms post (pc) (L) ([.int v]) (ws) (cl) (sl) := by
  intro p e s m args below meth c H locs ls A C hl hP hD hS
  have hlk := C.2.2.2.2.2.2.1
  refine W.widen hcl hsl ?_
  exact W.zret C.1 C.2.1 (C.2.2.1.trans hrt) (by rcases hv with rfl | rfl <;> decide) (fun t ht _ => ⟨⟨_, ws, rfl, hpost, by rw [ht]; exact hP, hD⟩, hS.F ht⟩) hS.2.2 hd hlk

theorem V_vret (hd : decode bt pc = .ok (.return_, 1)) (hrt : rt = none) (hcl : cl ≤ mc) (hsl : sl ≤ ms) (hpost : post none ws) : V E y bt nL rt fr mc ms post (pc) (L) ([]) (ws) (cl) (sl) := by
  intro p e s m args below meth c H locs ls A C hl hP hD hS
  have hlk := C.2.2.2.2.2.2.1
  refine W.widen hcl hsl ?_
  exact W.vret C.1 C.2.1 (C.2.2.1.trans hrt) (fun t ht _ => ⟨⟨_, ws, rfl, hpost, by rw [ht]; exact hP, hD⟩, hS.F ht⟩) hS.2.2 hd hlk

theorem V_aret {v : Value} {r : FieldType} (hd : decode bt pc = .ok (.areturn, 1)) (hrt : rt = some r) (hr : (∃ n, r = .object n) ∨ ∃ t, r = .array t) (hv : v = .null ∨ ∃ a, v = .ref a) (hcl : cl ≤ mc) (hsl : sl ≤ ms) (hpost : post (some v) ws) : V E y bt nL rt fr mc ms post (pc) (L) ([v]) (ws) (cl) (sl) := by
  intro p e s m args below meth c H locs ls A C hl hP hD hS
  have hlk := C.2.2.2.2.2.2.1
  refine W.widen hcl hsl ?_
  exact W.aret C.1 C.2.1 (C.2.2.1.trans hrt) hr hv (fun t ht _ => ⟨⟨_, ws, rfl, hpost, by rw [ht]; exact hP, hD⟩, hS.F ht⟩) hS.2.2 hd hlk

theorem V.locals {L' : List (Option Value)} (hs : ∀ (i : Nat) (v : Value), L'[i]? = some (some v) → L[i]? = some (some v)) (k : V E y bt nL rt fr mc ms post (pc) (L') (st) (ws) (cl) (sl)) : V E y bt nL rt fr mc ms post (pc) (L) (st) (ws) (cl) (sl) := by
  intro p e s m args below meth c H locs ls A C hl hP hD hS
  exact k p e s m args below meth c H locs ls A C (hl.sub hs) hP hD hS

theorem V.wide {cl' sl' : Nat} (h1 : cl ≤ cl') (h2 : sl ≤ sl') (k : V E y bt nL rt fr mc ms post (pc) (L) (st) (ws) (cl') (sl')) : V E y bt nL rt fr mc ms post (pc) (L) (st) (ws) (cl) (sl) := by
  intro p e s m args below meth c H locs ls A C hl hP hD hS
  exact W.widen h1 h2 (k p e s m args below meth c H locs ls A C hl hP hD hS)
/-- behind a call -/
theorem V_run {y' : MethodName} {mc' ms' : Nat} {post' : Option Value → va_W → Prop} {a : Array Value} {st0 : List Value}
    {p : Program} {e : Env} {s : State} {m : MethodId} {args : Array Value} {below : List Frame} {meth : Method} {c : Code} {H : Heap} {locs : List Loc} {ls : Array Slot} {A : Nat → Prop}
    (C : Cx E y bt nL rt p s m args meth c A) (hl : Lh ls nL L) (hD : va_D A ws) (hS : va_S A s.heap H locs)
    (hr : va_Run p E.1 e (RM fr mc ms) s m args below meth c H locs cl sl mc' ms' (F0 m pc ls st0) st (Q0 E (va_A ws H.size) post' a) (va_A ws H.size))
    (k : ∀ (v : Option Value) (ws' : va_W), post' v ws' → V E y bt nL rt fr mc ms post (pc + 3) L (v.toList ++ st) ws' (cl + mc') (sl + ms')) :
    W p E.1 e (RM fr mc ms) s m args below meth c H locs cl sl (MQ below (Q0 E A post) args s mc ms A) (F0 m pc ls st0) := by
  have hF : ∀ q, va_A ws H.size q → A q := by
    rintro q (⟨k, e9, h⟩ | h)
    · exact hD.2 k (q, e9) h
    · exact C.2.2.2.2.2.2.2.2.2.1 q (Nat.le_trans hS.1 h)
  intro T hT X
  obtain ⟨v, st₀, t, T', L9, h0, X', hL, e1, e2, ⟨⟨v', ws', hv, hp, hP1, hD1⟩, hz, hk⟩, stp⟩ := hr T hT X
  cases hv
  rw [h0] at hz hk
  obtain ⟨t2, a1, b1⟩ := k v ws' hp p e s m args below meth c T'.heap (locs ++ L9) ls A C hl (by rw [e1]; exact hP1) (hD1.weaken (fun _ _ _ h => hF _ h))
    ⟨Nat.le_trans hS.1 (by rw [e1]; exact hz), fun q h1 h2 => by rw [e1, hk q (Nat.lt_of_lt_of_le h1 hS.1) (fun z => h2 (hF q z))]; exact hS.2.1 q h1 h2, fun q hq => by
      rcases List.mem_append.mp hq with h | h
      · exact hS.2.2 q h
      · exact hF _ (hL q h)⟩ T' rfl X'
  exact ⟨t2, stp t2 a1, b1⟩
theorem Pc_blind {av : List Value} {sz : Nat} (hG : GOK E.2.2.2) : FrameBlind (va_Pc av (fun U => U.heap.size = sz ∧ va_P E.2.1 CL ws U.heap ∧ va_K E.2.1 CL (TY E) U ∧ va_D (fun _ => True) ws ∧ E.2.2.2 (va_A ws sz) U)) := by
  intro a U g mk q
  obtain ⟨q0, q1, qP, qK, qD, qG⟩ := q
  exact ⟨q0, q1, qP, va_K.moved (u := U) (U := U.calling g mk a) (Vm.Alike.refl U.vm) qK, qD, hG.1 _ U (U.calling g mk a) rfl rfl qG⟩
theorem Pc_start {av : List Value} {p : Program} {s : State} {m : MethodId} {args : Array Value} {meth : Method} {c : Code} {H : Heap} {locs : List Loc} {A : Nat → Prop}
    (C : Cx E y bt nL rt p s m args meth c A) (hP : va_P E.2.1 CL ws H) (hD : va_D A ws) (hS : va_S A s.heap H locs) : ∀ U : State, U.heap = H → s.WarmedH U.vm → va_Pc av (fun U => U.heap.size = H.size ∧ va_P E.2.1 CL ws U.heap ∧ va_K E.2.1 CL (TY E) U ∧ va_D (fun _ => True) ws ∧ E.2.2.2 (va_A ws H.size) U) av.toArray U := by
  intro U hU hW
  refine ⟨rfl, by rw [hU], by rw [hU]; exact hP, va_K.moved hW.alike C.2.2.2.2.2.2.2.2.1, hD.weaken (fun _ _ _ _ => trivial), ?_⟩
  refine C.2.2.2.2.2.2.2.2.2.2.1.2 A _ s U locs C.2.2.2.2.2.2.2.2.2.2.2 hW (by rw [hU]; exact hS) ?_
  rintro q (⟨k, e9, h⟩ | h) h2
  · exact hD.2 k (q, e9) h
  · exact absurd h2 (Nat.not_lt.mpr (Nat.le_trans hS.1 h))
theorem V_callV (q : Nat) {y' : MethodName} {bt' : ByteArray} {nL' : Nat} {rt' : Option FieldType} {fr' mc' ms' : Nat} {post' : Option Value → va_W → Prop} {As st0 : List Value} {ix ci b n : Nat} {fs : List Value} {T : u_T} {N : Nat}
    (hM : MW y' bt' nL' rt' n) (hl' : MV y.cls ix y') (hd : decode bt pc = .ok (.invokevirtual ix, 3)) (hC : Ct E y' bt' nL' rt' fr' mc' ms' (.ref b :: As) ws post') (he : ws[q]? = some (b, .inr (ci, fs))) (hc : CL[ci]? = some (y'.cls, T, N))
    (hn : As.length = n) (hst : st0 = As.reverse ++ .ref b :: st) (hW : (st.map fun v => v.category).sum ≤ 8) (hfr : fr' + 1 ≤ fr) (hnL : nL' ≤ 21) (hcl : cl + mc' ≤ mc) (hsl : sl + ms' ≤ ms)
    (k : ∀ (v : Option Value) (ws' : va_W), post' v ws' → V E y bt nL rt fr mc ms post (pc + 3) L (v.toList ++ st) ws' (cl + mc') (sl + ms')) : V E y bt nL rt fr mc ms post pc L st0 ws cl sl := by
  intro p e s m args below meth c H locs ls A C hl hP hD hS
  have hts := C.2.2.2.2.2.1
  refine V_run (post' := post') (a := (Value.ref b :: As).toArray) (y' := y') C hl hD hS ?_ k
  refine va_runV (C := y'.cls) (bytes := bt') (maxL := nL') (ret := rt') (n := n) ⟨C.1, C.2.1, C.2.2.2.1, C.2.2.2.2.1, hts⟩ (hC C.2.2.2.2.2.2.2.2.2.2.1 H.size) ⟨callB_of n hts (gUni0 hM.1) rfl rfl rfl (hts _ hM.2.1) (hts _ hl'.1) hM.2.2.1 ⟨hfr, ?_⟩, hts _ hl'.2.1, hts _ hl'.2.2⟩ ⟨Pc_blind C.2.2.2.2.2.2.2.2.2.2.1, va_recv C.2.2.2.2.2.2.2.2.1 hP hc he, Pc_start C hP hD hS⟩ rfl hn hl.1.1 hst ?_ hd ⟨hcl, hsl⟩
  · show 8 + (nL' + 11) + 40 * fr' ≤ 40 * fr
    omega
  · exact lv_room hW
theorem V_callS {y' : MethodName} {bt' : ByteArray} {nL' : Nat} {rt' : Option FieldType} {fr' mc' ms' : Nat} {post' : Option Value → va_W → Prop} {As st0 : List Value} {ix n : Nat}
    (hM : MW y' bt' nL' rt' n) (hl' : MS y.cls ix y') (hd : decode bt pc = .ok (.invokestatic ix, 3)) (hC : Ct E y' bt' nL' rt' fr' mc' ms' As ws post')
    (hn : As.length = n) (hst : st0 = As.reverse ++ st) (hW : (st.map fun v => v.category).sum ≤ 8) (hfr : fr' + 1 ≤ fr) (hnL : nL' ≤ 21) (hcl : cl + mc' ≤ mc) (hsl : sl + ms' ≤ ms)
    (k : ∀ (v : Option Value) (ws' : va_W), post' v ws' → V E y bt nL rt fr mc ms post (pc + 3) L (v.toList ++ st) ws' (cl + mc') (sl + ms')) : V E y bt nL rt fr mc ms post pc L st0 ws cl sl := by
  intro p e s m args below meth c H locs ls A C hl hP hD hS
  have hts := C.2.2.2.2.2.1
  refine V_run (post' := post') (a := As.toArray) (y' := y') C hl hD hS ?_ k
  refine va_runS (bytes := bt') (maxL := nL') (ret := rt') (n := n) ⟨C.1, C.2.1, C.2.2.2.1, C.2.2.2.2.1, hts⟩ (hC C.2.2.2.2.2.2.2.2.2.2.1 H.size) ⟨callB_of n hts (gUni0 hM.1) rfl rfl rfl (hts _ hM.2.1) (hts _ hl'.1) hM.2.2.1 ⟨hfr, ?_⟩, hts _ hl'.2⟩ ⟨Pc_blind C.2.2.2.2.2.2.2.2.2.2.1, Pc_start C hP hD hS⟩ rfl hn hl.1.1 hst ?_ hd ⟨hcl, hsl⟩
  · show 8 + (nL' + 11) + 40 * fr' ≤ 40 * fr
    omega
  · exact lv_room hW
theorem V_callI {y' : MethodName} {bt' : ByteArray} {nL' : Nat} {fr' mc' ms' : Nat} {post' : Option Value → va_W → Prop} {As st0 : List Value} {ix b n : Nat}
    (hM : MW y' bt' nL' none n) (hl' : MI y.cls ix y') (hd : decode bt pc = .ok (.invokespecial ix, 3)) (hC : Ct E y' bt' nL' none fr' mc' ms' (.ref b :: As) ws post')
    (hn : As.length = n) (hst : st0 = As.reverse ++ .ref b :: st) (hW : (st.map fun v => v.category).sum ≤ 8) (hfr : fr' + 1 ≤ fr) (hnL : nL' ≤ 21) (hcl : cl + mc' ≤ mc) (hsl : sl + ms' ≤ ms)
    (k : ∀ (v : Option Value) (ws' : va_W), post' v ws' → V E y bt nL rt fr mc ms post (pc + 3) L (v.toList ++ st) ws' (cl + mc') (sl + ms')) : V E y bt nL rt fr mc ms post pc L st0 ws cl sl := by
  intro p e s m args below meth c H locs ls A C hl hP hD hS
  have hts := C.2.2.2.2.2.1
  refine V_run (post' := post') (a := (Value.ref b :: As).toArray) (y' := y') C hl hD hS ?_ k
  refine va_runI (bytes := bt') (maxL := nL') (n := n) ⟨C.1, C.2.1, C.2.2.2.1, C.2.2.2.2.1, hts⟩ (hC C.2.2.2.2.2.2.2.2.2.2.1 H.size) ⟨callB_of n hts (gUni0 hM.1) rfl rfl rfl (hts _ hM.2.1) (hts _ hl'.1) hM.2.2.1 ⟨hfr, ?_⟩, hl'.2.2, hts _ hl'.2.1⟩ ⟨Pc_blind C.2.2.2.2.2.2.2.2.2.2.1, Pc_start C hP hD hS⟩ rfl hn hl.1.1 hst ?_ hd ⟨hcl, hsl⟩
  · show 8 + (nL' + 11) + 40 * fr' ≤ 40 * fr
    omega
  · exact lv_room hW
theorem V_mmax {ix : Nat} {x z : Int32} (hlk : Cond.methodLink y.cls ix Lib.Math.max.name ∈ TB) (hs : Cond.static Lib.Math.max.name ∈ TB) (hi : Cond.initialized "java/lang/Math" ∈ TB) (hc : Cond.code Lib.Math.max.name Lib.Math.max.code 2 (some .int) ∈ TB) (hd : decode bt pc = .ok (.invokestatic ix, 3)) (hfr : 1 ≤ fr) (hW : (st.map fun v => v.category).sum ≤ 8) (hcl : cl ≤ mc) (hsl : sl ≤ ms)
    (k : V E y bt nL rt fr mc ms post (pc + 3) L (.int (if x < z then z else x) :: st) ws cl sl) : V E y bt nL rt fr mc ms post pc L (.int z :: .int x :: st) ws cl sl := by
  intro p e s m args below meth c H locs ls A C hl hP hD hS
  exact va_mmax C.1 C.2.1 (C.2.2.2.1.trans hl.1.1.symm) C.2.2.2.2.1 (C.2.2.2.2.2.1 _ hlk) (C.2.2.2.2.2.1 _ hs) (C.2.2.2.2.2.1 _ hi) (C.2.2.2.2.2.1 _ hc) hfr (by show _ + 13 ≤ 40 * fr; omega) hcl hsl hd (k p e s m args below meth c H locs ls A C hl hP hD hS)
theorem V_mmin {ix : Nat} {x z : Int32} (hlk : Cond.methodLink y.cls ix Lib.Math.min.name ∈ TB) (hs : Cond.static Lib.Math.min.name ∈ TB) (hi : Cond.initialized "java/lang/Math" ∈ TB) (hc : Cond.code Lib.Math.min.name Lib.Math.min.code 2 (some .int) ∈ TB) (hd : decode bt pc = .ok (.invokestatic ix, 3)) (hfr : 1 ≤ fr) (hW : (st.map fun v => v.category).sum ≤ 8) (hcl : cl ≤ mc) (hsl : sl ≤ ms)
    (k : V E y bt nL rt fr mc ms post (pc + 3) L (.int (if z < x then z else x) :: st) ws cl sl) : V E y bt nL rt fr mc ms post pc L (.int z :: .int x :: st) ws cl sl := by
  intro p e s m args below meth c H locs ls A C hl hP hD hS
  exact va_mmin C.1 C.2.1 (C.2.2.2.1.trans hl.1.1.symm) C.2.2.2.2.1 (C.2.2.2.2.2.1 _ hlk) (C.2.2.2.2.2.1 _ hs) (C.2.2.2.2.2.1 _ hi) (C.2.2.2.2.2.1 _ hc) hfr (by show _ + 13 ≤ 40 * fr; omega) hcl hsl hd (k p e s m args below meth c H locs ls A C hl hP hD hS)
end VR
theorem lvOf_args (vs : List Value) (h : ∀ v ∈ vs, v.category = 1) : ∀ (j i : Nat) (v : Value), vs[i]? = some v → (j + i, v) ∈ lv_args j vs := by
  induction vs with
  | nil => intro j i v hv; simp at hv
  | cons a vs ih =>
    intro j i v hv
    have ha : a.category = 1 := h a List.mem_cons_self
    unfold lv_args
    cases i with
    | zero =>
      rw [List.getElem?_cons_zero] at hv
      cases hv
      exact List.mem_cons_self
    | succ i =>
      rw [List.getElem?_cons_succ] at hv
      refine List.mem_cons_of_mem _ ?_
      rw [if_neg (by omega)]
      have := ih (fun v hv => h v (List.mem_cons_of_mem _ hv)) (j + 1) i v hv
      rw [show j + (i + 1) = j + 1 + i by omega]
      exact this
theorem sl_len (vs : List Value) (h : ∀ v ∈ vs, v.category = 1) : (lg_sl vs).length = vs.length := by
  induction vs with
  | nil => rfl
  | cons a vs ih =>
    have ha : a.category = 1 := h a List.mem_cons_self
    have e := ih (fun v hv => h v (List.mem_cons_of_mem _ hv))
    simp only [lg_sl, List.flatMap_cons, List.length_append, List.length_cons] at e ⊢
    rw [e]
    cases a <;> simp [Value.category] at ha ⊢ <;> omega
/-- a contract out of its walk -/
theorem Ct_of {E : VE} {y : MethodName} {bt : ByteArray} {nL : Nat} {rt : Option FieldType} {fr mc ms n : Nat} {av : List Value} {ws : va_W} {post : Option Value → va_W → Prop} (hM : MW y bt nL rt n) (hav0 : av.all (fun v => decide (v.category = 1)) = true) (hnl : av.length ≤ nL)
    (k : V E y bt nL rt fr mc ms post 0 (av.map some ++ List.replicate (nL - av.length) none) [] ws 0 0) : Ct E y bt nL rt fr mc ms av ws post := by
  have hav : ∀ v ∈ av, v.category = 1 := fun v hv => of_decide_eq_true (List.all_eq_true.mp hav0 v hv)
  intro hG sz
  refine Met.ofW (cc := bt) (maxL := nL) (ret := rt) hM.2.2.2 rfl ?_
  intro p e s m args below meth c s₁ B hml hv
  obtain ⟨rfl, hsz, hP, hK, hD0, hG0⟩ := hv
  subst hsz
  rw [lg_entry_eq]
  have hl := lv_entry av (n := nL) (by rw [sl_len av hav]; exact hnl)
  have hts := atoms_spec (ws := Cond.code y bt nL rt :: TB) B.pre
  refine k p e s m _ below meth c s.heap [] _ _ ⟨B.exec, B.bytes, B.returns, hml, findClass_of_methodNamed B.named, fun w hw => hts w (List.mem_cons_of_mem _ hw), B.notSynchronized, (name_of_methodNamed B.named B.method).1, hK, fun q h => Or.inr h, hG, hG0⟩ ?_ hP (hD0.self (sz := s.heap.size)) va_S.rf
  have key : ∀ (i : Nat) (v : Value), (av.map some ++ List.replicate (nL - av.length) none)[i]? = some (some v) → av[i]? = some v := by
    intro i v h
    by_cases hi : i < av.length
    · rw [List.getElem?_append_left (by simpa using hi), List.getElem?_map] at h
      cases ha : av[i]? with
      | none => rw [ha] at h; cases h
      | some w => rw [ha] at h; cases h; rfl
    · rw [List.getElem?_append_right (by simpa using Nat.not_lt.mp hi)] at h
      have := List.eq_of_mem_replicate (List.mem_of_getElem? h)
      cases this
  refine ⟨⟨hl.1, hl.2.1, fun q hq => ?_⟩, fun i v h => hav v (List.mem_of_getElem? (key i v h))⟩
  have h1 := lvOf_args av hav 0 q.1 q.2 (key _ _ (mem_lvOf.mp hq))
  rw [Nat.zero_add] at h1
  exact hl.2.2 q h1
theorem Ct.mono {E : VE} {y : MethodName} {bt : ByteArray} {nL : Nat} {rt : Option FieldType} {fr mc ms : Nat} {av : List Value} {ws : va_W} {post post2 : Option Value → va_W → Prop} (h : Ct E y bt nL rt fr mc ms av ws post) (hp : ∀ v w, post v w → post2 v w) : Ct E y bt nL rt fr mc ms av ws post2 := by
  intro hG sz p e ha hc hk s m args below hf h1 h2 h3
  obtain ⟨k, o, a1, a2, a3, ⟨⟨v, w, b1, b2, b3⟩, b4⟩, a5⟩ := h hG sz p e ha hc hk s m args below hf h1 h2 h3
  exact ⟨k, o, a1, a2, a3, ⟨⟨v, w, b1, hp v w b2, b3⟩, b4⟩, a5⟩
end
section
set_option maxRecDepth 20000 in
theorem ui_X0 : ∀ w ∈ u_ws RX0 TX0 2, w ∈ TB := by
  intro w hw
  obtain ⟨k, hk, rfl⟩ := List.mem_map.mp hw
  have hk := List.mem_range.mp hk
  match k, hk with
  | 0, _ => exact TB_of 162 rfl rfl
  | 1, _ => exact TB_of 164 rfl rfl
  | k + 2, h => exact absurd h (by omega)
set_option maxRecDepth 20000 in
theorem ui_X1 : ∀ w ∈ u_ws RX1 TX1 8, w ∈ TB := by
  intro w hw
  obtain ⟨k, hk, rfl⟩ := List.mem_map.mp hw
  have hk := List.mem_range.mp hk
  match k, hk with
  | 0, _ => exact TB_of 108 rfl rfl
  | 1, _ => exact TB_of 110 rfl rfl
  | 2, _ => exact TB_of 112 rfl rfl
  | 3, _ => exact TB_of 114 rfl rfl
  | 4, _ => exact TB_of 116 rfl rfl
  | 5, _ => exact TB_of 118 rfl rfl
  | 6, _ => exact TB_of 120 rfl rfl
  | 7, _ => exact TB_of 122 rfl rfl
  | k + 8, h => exact absurd h (by omega)
set_option maxRecDepth 20000 in
theorem ui_X2 : ∀ w ∈ u_ws RX2 TX2 2, w ∈ TB := by
  intro w hw
  obtain ⟨k, hk, rfl⟩ := List.mem_map.mp hw
  have hk := List.mem_range.mp hk
  match k, hk with
  | 0, _ => exact TB_of 87 rfl rfl
  | 1, _ => exact TB_of 89 rfl rfl
  | k + 2, h => exact absurd h (by omega)
set_option maxRecDepth 20000 in
theorem ui_X3 : ∀ w ∈ u_ws RX3 TX3 3, w ∈ TB := by
  intro w hw
  obtain ⟨k, hk, rfl⟩ := List.mem_map.mp hw
  have hk := List.mem_range.mp hk
  match k, hk with
  | 0, _ => exact TB_of 177 rfl rfl
  | 1, _ => exact TB_of 179 rfl rfl
  | 2, _ => exact TB_of 181 rfl rfl
  | k + 3, h => exact absurd h (by omega)
set_option maxRecDepth 20000 in
theorem ui_X4 : ∀ w ∈ u_ws RX4 TX4 2, w ∈ TB := by
  intro w hw
  obtain ⟨k, hk, rfl⟩ := List.mem_map.mp hw
  have hk := List.mem_range.mp hk
  match k, hk with
  | 0, _ => exact TB_of 147 rfl rfl
  | 1, _ => exact TB_of 149 rfl rfl
  | k + 2, h => exact absurd h (by omega)
set_option maxRecDepth 20000 in
theorem ui_X5 : ∀ w ∈ u_ws RX5 TX5 2, w ∈ TB := by
  intro w hw
  obtain ⟨k, hk, rfl⟩ := List.mem_map.mp hw
  have hk := List.mem_range.mp hk
  match k, hk with
  | 0, _ => exact TB_of 134 rfl rfl
  | 1, _ => exact TB_of 136 rfl rfl
  | k + 2, h => exact absurd h (by omega)
set_option maxRecDepth 20000 in
theorem ui_X6 : ∀ w ∈ u_ws RX6 TX6 4, w ∈ TB := by
  intro w hw
  obtain ⟨k, hk, rfl⟩ := List.mem_map.mp hw
  have hk := List.mem_range.mp hk
  match k, hk with
  | 0, _ => exact TB_of 480 rfl rfl
  | 1, _ => exact TB_of 482 rfl rfl
  | 2, _ => exact TB_of 484 rfl rfl
  | 3, _ => exact TB_of 486 rfl rfl
  | k + 4, h => exact absurd h (by omega)
set_option maxRecDepth 20000 in
theorem ui_X7 : ∀ w ∈ u_ws RX7 TX7 11, w ∈ TB := by
  intro w hw
  obtain ⟨k, hk, rfl⟩ := List.mem_map.mp hw
  have hk := List.mem_range.mp hk
  match k, hk with
  | 0, _ => exact TB_of 221 rfl rfl
  | 1, _ => exact TB_of 223 rfl rfl
  | 2, _ => exact TB_of 225 rfl rfl
  | 3, _ => exact TB_of 227 rfl rfl
  | 4, _ => exact TB_of 229 rfl rfl
  | 5, _ => exact TB_of 231 rfl rfl
  | 6, _ => exact TB_of 233 rfl rfl
  | 7, _ => exact TB_of 235 rfl rfl
  | 8, _ => exact TB_of 237 rfl rfl
  | 9, _ => exact TB_of 239 rfl rfl
  | 10, _ => exact TB_of 241 rfl rfl
  | k + 11, h => exact absurd h (by omega)
set_option maxRecDepth 20000 in
theorem ui_X8 : ∀ w ∈ u_ws RX8 TX8 33, w ∈ TB := by
  intro w hw
  obtain ⟨k, hk, rfl⟩ := List.mem_map.mp hw
  have hk := List.mem_range.mp hk
  match k, hk with
  | 0, _ => exact TB_of 763 rfl rfl
  | 1, _ => exact TB_of 765 rfl rfl
  | 2, _ => exact TB_of 767 rfl rfl
  | 3, _ => exact TB_of 769 rfl rfl
  | 4, _ => exact TB_of 771 rfl rfl
  | 5, _ => exact TB_of 773 rfl rfl
  | 6, _ => exact TB_of 775 rfl rfl
  | 7, _ => exact TB_of 777 rfl rfl
  | 8, _ => exact TB_of 779 rfl rfl
  | 9, _ => exact TB_of 781 rfl rfl
  | 10, _ => exact TB_of 783 rfl rfl
  | 11, _ => exact TB_of 785 rfl rfl
  | 12, _ => exact TB_of 787 rfl rfl
  | 13, _ => exact TB_of 789 rfl rfl
  | 14, _ => exact TB_of 791 rfl rfl
  | 15, _ => exact TB_of 793 rfl rfl
  | 16, _ => exact TB_of 795 rfl rfl
  | 17, _ => exact TB_of 797 rfl rfl
  | 18, _ => exact TB_of 799 rfl rfl
  | 19, _ => exact TB_of 801 rfl rfl
  | 20, _ => exact TB_of 803 rfl rfl
  | 21, _ => exact TB_of 805 rfl rfl
  | 22, _ => exact TB_of 807 rfl rfl
  | 23, _ => exact TB_of 809 rfl rfl
  | 24, _ => exact TB_of 811 rfl rfl
  | 25, _ => exact TB_of 813 rfl rfl
  | 26, _ => exact TB_of 815 rfl rfl
  | 27, _ => exact TB_of 817 rfl rfl
  | 28, _ => exact TB_of 819 rfl rfl
  | 29, _ => exact TB_of 821 rfl rfl
  | 30, _ => exact TB_of 823 rfl rfl
  | 31, _ => exact TB_of 825 rfl rfl
  | 32, _ => exact TB_of 827 rfl rfl
  | k + 33, h => exact absurd h (by omega)
set_option maxRecDepth 20000 in
theorem ui_Jx4a65c : ∀ w ∈ u_ws RJx4a65c TJx4a65c 3, w ∈ TB := by
  intro w hw
  obtain ⟨k, hk, rfl⟩ := List.mem_map.mp hw
  have hk := List.mem_range.mp hk
  match k, hk with
  | 0, _ => exact TB_of 207 rfl rfl
  | 1, _ => exact TB_of 203 rfl rfl
  | 2, _ => exact TB_of 205 rfl rfl
  | k + 3, h => exact absurd h (by omega)
set_option maxRecDepth 20000 in
theorem mw_X7_init : MW yX7_init cX7_init 1 none 0 := ⟨TB_of 72 rfl rfl, TB_of 45 rfl rfl, by decide +kernel, by decide +kernel⟩
set_option maxRecDepth 20000 in
theorem mw_X2_init : MW yX2_init cX2_init 1 none 0 := ⟨TB_of 80 rfl rfl, TB_of 46 rfl rfl, by decide +kernel, by decide +kernel⟩
set_option maxRecDepth 20000 in
theorem mw_J7_fill_53178 : MW yJ7_fill_53178 cJ7_fill_53178 4 none 2 := ⟨TB_of 84 rfl rfl, TB_of 47 rfl rfl, by decide +kernel, by decide +kernel⟩
set_option maxRecDepth 20000 in
theorem mw_X1_init : MW yX1_init cX1_init 1 none 0 := ⟨TB_of 97 rfl rfl, TB_of 48 rfl rfl, by decide +kernel, by decide +kernel⟩
set_option maxRecDepth 20000 in
theorem mw_X5_init : MW yX5_init cX5_init 1 none 0 := ⟨TB_of 129 rfl rfl, TB_of 49 rfl rfl, by decide +kernel, by decide +kernel⟩
set_option maxRecDepth 20000 in
theorem mw_X4_init : MW yX4_init cX4_init 1 none 0 := ⟨TB_of 143 rfl rfl, TB_of 50 rfl rfl, by decide +kernel, by decide +kernel⟩
set_option maxRecDepth 20000 in
theorem mw_X0_init : MW yX0_init cX0_init 1 none 0 := ⟨TB_of 156 rfl rfl, TB_of 51 rfl rfl, by decide +kernel, by decide +kernel⟩
set_option maxRecDepth 20000 in
theorem mw_X3_init : MW yX3_init cX3_init 1 none 0 := ⟨TB_of 171 rfl rfl, TB_of 52 rfl rfl, by decide +kernel, by decide +kernel⟩
set_option maxRecDepth 20000 in
theorem mw_Jx4a65c_init_da8c8 : MW yJx4a65c_init_da8c8 cJx4a65c_init_da8c8 1 none 0 := ⟨TB_of 188 rfl rfl, TB_of 55 rfl rfl, by decide +kernel, by decide +kernel⟩
set_option maxRecDepth 20000 in
theorem mw_Jxc12de_init_da8c8 : MW yJxc12de_init_da8c8 cJxc12de_init_da8c8 1 none 0 := ⟨TB_of 191 rfl rfl, TB_of 54 rfl rfl, by decide +kernel, by decide +kernel⟩
set_option maxRecDepth 20000 in
theorem mw_Jxa1e45_init_da8c8 : MW yJxa1e45_init_da8c8 cJxa1e45_init_da8c8 1 none 0 := ⟨TB_of 194 rfl rfl, TB_of 53 rfl rfl, by decide +kernel, by decide +kernel⟩
set_option maxRecDepth 20000 in
theorem mw_X7_part : MW yX7_part cX7_part 2 (some (.int)) 1 := ⟨TB_of 247 rfl rfl, TB_of 45 rfl rfl, by decide +kernel, by decide +kernel⟩
set_option maxRecDepth 20000 in
theorem mw_X7_isCutAtHand : MW yX7_isCutAtHand cX7_isCutAtHand 1 (some (.boolean)) 0 := ⟨TB_of 251 rfl rfl, TB_of 45 rfl rfl, by decide +kernel, by decide +kernel⟩
set_option maxRecDepth 20000 in
theorem mw_X7_isVersion : MW yX7_isVersion cX7_isVersion 1 (some (.boolean)) 1 := ⟨TB_of 254 rfl rfl, TB_of 45 rfl rfl, by decide +kernel, by decide +kernel⟩
set_option maxRecDepth 20000 in
theorem mw_X7_offer : MW yX7_offer cX7_offer 4 (some (.boolean)) 3 := ⟨TB_of 258 rfl rfl, TB_of 45 rfl rfl, by decide +kernel, by decide +kernel⟩
set_option maxRecDepth 20000 in
theorem mw_X7_isPart : MW yX7_isPart cX7_isPart 2 (some (.boolean)) 1 := ⟨TB_of 262 rfl rfl, TB_of 45 rfl rfl, by decide +kernel, by decide +kernel⟩
set_option maxRecDepth 20000 in
theorem mw_X7_isWorth : MW yX7_isWorth cX7_isWorth 1 (some (.boolean)) 1 := ⟨TB_of 265 rfl rfl, TB_of 45 rfl rfl, by decide +kernel, by decide +kernel⟩
set_option maxRecDepth 20000 in
theorem mw_X7_homeToCome : MW yX7_homeToCome cX7_homeToCome 2 (some (.int)) 1 := ⟨TB_of 269 rfl rfl, TB_of 45 rfl rfl, by decide +kernel, by decide +kernel⟩
set_option maxRecDepth 20000 in
theorem mw_X7_isChosen : MW yX7_isChosen cX7_isChosen 2 (some (.boolean)) 1 := ⟨TB_of 273 rfl rfl, TB_of 45 rfl rfl, by decide +kernel, by decide +kernel⟩
set_option maxRecDepth 20000 in
theorem mw_X2_versionOf : MW yX2_versionOf cX2_versionOf 2 (some (.int)) 1 := ⟨TB_of 277 rfl rfl, TB_of 46 rfl rfl, by decide +kernel, by decide +kernel⟩
set_option maxRecDepth 20000 in
theorem mw_X7_openOffers : MW yX7_openOffers cX7_openOffers 1 (some (.object "TrainDesk$Offers")) 0 := ⟨TB_of 281 rfl rfl, TB_of 45 rfl rfl, by decide +kernel, by decide +kernel⟩
set_option maxRecDepth 20000 in
theorem mw_X2_put : MW yX2_put cX2_put 4 none 3 := ⟨TB_of 285 rfl rfl, TB_of 46 rfl rfl, by decide +kernel, by decide +kernel⟩
set_option maxRecDepth 20000 in
theorem mw_X7_withdraw : MW yX7_withdraw cX7_withdraw 2 (some (.boolean)) 1 := ⟨TB_of 289 rfl rfl, TB_of 45 rfl rfl, by decide +kernel, by decide +kernel⟩
set_option maxRecDepth 20000 in
theorem mw_X2_has : MW yX2_has cX2_has 2 (some (.boolean)) 1 := ⟨TB_of 293 rfl rfl, TB_of 46 rfl rfl, by decide +kernel, by decide +kernel⟩
set_option maxRecDepth 20000 in
theorem mw_X2_drop : MW yX2_drop cX2_drop 2 none 1 := ⟨TB_of 298 rfl rfl, TB_of 46 rfl rfl, by decide +kernel, by decide +kernel⟩
set_option maxRecDepth 20000 in
theorem mw_X7_need : MW yX7_need cX7_need 6 (some (.int)) 5 := ⟨TB_of 303 rfl rfl, TB_of 45 rfl rfl, by decide +kernel, by decide +kernel⟩
set_option maxRecDepth 20000 in
theorem mw_X1_add : MW yX1_add cX1_add 6 (some (.int)) 5 := ⟨TB_of 307 rfl rfl, TB_of 48 rfl rfl, by decide +kernel, by decide +kernel⟩
set_option maxRecDepth 20000 in
theorem mw_X7_test : MW yX7_test cX7_test 2 (some (.int)) 1 := ⟨TB_of 311 rfl rfl, TB_of 45 rfl rfl, by decide +kernel, by decide +kernel⟩
set_option maxRecDepth 20000 in
theorem mw_X7_areParts : MW yX7_areParts cX7_areParts 2 (some (.boolean)) 1 := ⟨TB_of 315 rfl rfl, TB_of 45 rfl rfl, by decide +kernel, by decide +kernel⟩
set_option maxRecDepth 20000 in
theorem mw_X5_add : MW yX5_add cX5_add 2 (some (.int)) 1 := ⟨TB_of 319 rfl rfl, TB_of 49 rfl rfl, by decide +kernel, by decide +kernel⟩
set_option maxRecDepth 20000 in
theorem mw_X7_fits : MW yX7_fits cX7_fits 2 (some (.int)) 1 := ⟨TB_of 323 rfl rfl, TB_of 45 rfl rfl, by decide +kernel, by decide +kernel⟩
set_option maxRecDepth 20000 in
theorem mw_X2_mask : MW yX2_mask cX2_mask 3 (some (.int)) 0 := ⟨TB_of 327 rfl rfl, TB_of 46 rfl rfl, by decide +kernel, by decide +kernel⟩
set_option maxRecDepth 20000 in
theorem mw_X7_firstBroken : MW yX7_firstBroken cX7_firstBroken 2 (some (.int)) 1 := ⟨TB_of 331 rfl rfl, TB_of 45 rfl rfl, by decide +kernel, by decide +kernel⟩
set_option maxRecDepth 20000 in
theorem mw_X1_weigh : MW yX1_weigh cX1_weigh 4 none 2 := ⟨TB_of 335 rfl rfl, TB_of 48 rfl rfl, by decide +kernel, by decide +kernel⟩
set_option maxRecDepth 20000 in
theorem mw_X1_weighOne : MW yX1_weighOne cX1_weighOne 10 none 3 := ⟨TB_of 339 rfl rfl, TB_of 48 rfl rfl, by decide +kernel, by decide +kernel⟩
set_option maxRecDepth 20000 in
theorem mw_X1_holds : MW yX1_holds cX1_holds 3 (some (.boolean)) 2 := ⟨TB_of 345 rfl rfl, TB_of 48 rfl rfl, by decide +kernel, by decide +kernel⟩
set_option maxRecDepth 20000 in
theorem mw_X1_neverBreaks : MW yX1_neverBreaks cX1_neverBreaks 2 none 1 := ⟨TB_of 349 rfl rfl, TB_of 48 rfl rfl, by decide +kernel, by decide +kernel⟩
set_option maxRecDepth 20000 in
theorem mw_X1_firstBroken : MW yX1_firstBroken cX1_firstBroken 3 (some (.int)) 1 := ⟨TB_of 353 rfl rfl, TB_of 48 rfl rfl, by decide +kernel, by decide +kernel⟩
set_option maxRecDepth 20000 in
theorem mw_X7_red : MW yX7_red cX7_red 2 (some (.int)) 1 := ⟨TB_of 357 rfl rfl, TB_of 45 rfl rfl, by decide +kernel, by decide +kernel⟩
set_option maxRecDepth 20000 in
theorem mw_X5_firstRed : MW yX5_firstRed cX5_firstRed 3 (some (.int)) 1 := ⟨TB_of 361 rfl rfl, TB_of 49 rfl rfl, by decide +kernel, by decide +kernel⟩
set_option maxRecDepth 20000 in
theorem mw_X7_cut : MW yX7_cut cX7_cut 2 (some (.int)) 0 := ⟨TB_of 365 rfl rfl, TB_of 45 rfl rfl, by decide +kernel, by decide +kernel⟩
set_option maxRecDepth 20000 in
theorem mw_X7_greatest : MW yX7_greatest cX7_greatest 8 (some (.int)) 2 := ⟨TB_of 369 rfl rfl, TB_of 45 rfl rfl, by decide +kernel, by decide +kernel⟩
set_option maxRecDepth 20000 in
theorem mw_X2_sum : MW yX2_sum cX2_sum 4 (some (.int)) 1 := ⟨TB_of 373 rfl rfl, TB_of 46 rfl rfl, by decide +kernel, by decide +kernel⟩
set_option maxRecDepth 20000 in
theorem mw_X7_hasLowerPart : MW yX7_hasLowerPart cX7_hasLowerPart 2 (some (.boolean)) 2 := ⟨TB_of 376 rfl rfl, TB_of 45 rfl rfl, by decide +kernel, by decide +kernel⟩
set_option maxRecDepth 20000 in
theorem mw_J6_lowestOneBit_0f7a4 : MW yJ6_lowestOneBit_0f7a4 cJ6_lowestOneBit_0f7a4 1 (some (.int)) 1 := ⟨TB_of 379 rfl rfl, TB_of 57 rfl rfl, by decide +kernel, by decide +kernel⟩
set_option maxRecDepth 20000 in
theorem mw_X7_goes : MW yX7_goes cX7_goes 2 (some (.boolean)) 1 := ⟨TB_of 383 rfl rfl, TB_of 45 rfl rfl, by decide +kernel, by decide +kernel⟩
set_option maxRecDepth 20000 in
theorem mw_X7_choose : MW yX7_choose cX7_choose 2 none 1 := ⟨TB_of 387 rfl rfl, TB_of 45 rfl rfl, by decide +kernel, by decide +kernel⟩
set_option maxRecDepth 20000 in
theorem mw_X4_plan : MW yX4_plan cX4_plan 6 none 2 := ⟨TB_of 391 rfl rfl, TB_of 50 rfl rfl, by decide +kernel, by decide +kernel⟩
set_option maxRecDepth 20000 in
theorem mw_J6_bitCount_0f7a4 : MW yJ6_bitCount_0f7a4 cJ6_bitCount_0f7a4 1 (some (.int)) 1 := ⟨TB_of 394 rfl rfl, TB_of 57 rfl rfl, by decide +kernel, by decide +kernel⟩
set_option maxRecDepth 20000 in
theorem mw_X4_firstOpen : MW yX4_firstOpen cX4_firstOpen 5 (some (.int)) 3 := ⟨TB_of 401 rfl rfl, TB_of 50 rfl rfl, by decide +kernel, by decide +kernel⟩
set_option maxRecDepth 20000 in
theorem mw_X7_chosen : MW yX7_chosen cX7_chosen 1 (some (.int)) 0 := ⟨TB_of 405 rfl rfl, TB_of 45 rfl rfl, by decide +kernel, by decide +kernel⟩
set_option maxRecDepth 20000 in
theorem mw_X7_worth : MW yX7_worth cX7_worth 1 (some (.int)) 0 := ⟨TB_of 409 rfl rfl, TB_of 45 rfl rfl, by decide +kernel, by decide +kernel⟩
set_option maxRecDepth 20000 in
theorem mw_X7_why : MW yX7_why cX7_why 5 (some (.int)) 1 := ⟨TB_of 413 rfl rfl, TB_of 45 rfl rfl, by decide +kernel, by decide +kernel⟩
set_option maxRecDepth 20000 in
theorem mw_X7_fix : MW yX7_fix cX7_fix 7 (some (.int)) 3 := ⟨TB_of 417 rfl rfl, TB_of 45 rfl rfl, by decide +kernel, by decide +kernel⟩
set_option maxRecDepth 20000 in
theorem mw_X7_mayFix : MW yX7_mayFix cX7_mayFix 4 (some (.boolean)) 3 := ⟨TB_of 421 rfl rfl, TB_of 45 rfl rfl, by decide +kernel, by decide +kernel⟩
set_option maxRecDepth 20000 in
theorem mw_X2_worthOf : MW yX2_worthOf cX2_worthOf 2 (some (.int)) 1 := ⟨TB_of 425 rfl rfl, TB_of 46 rfl rfl, by decide +kernel, by decide +kernel⟩
set_option maxRecDepth 20000 in
theorem mw_X7_leave : MW yX7_leave cX7_leave 7 (some (.int)) 3 := ⟨TB_of 429 rfl rfl, TB_of 45 rfl rfl, by decide +kernel, by decide +kernel⟩
set_option maxRecDepth 20000 in
theorem mw_X7_order : MW yX7_order cX7_order 2 (some (.int)) 1 := ⟨TB_of 433 rfl rfl, TB_of 45 rfl rfl, by decide +kernel, by decide +kernel⟩
set_option maxRecDepth 20000 in
theorem mw_X4_partAt : MW yX4_partAt cX4_partAt 2 (some (.int)) 1 := ⟨TB_of 437 rfl rfl, TB_of 50 rfl rfl, by decide +kernel, by decide +kernel⟩
set_option maxRecDepth 20000 in
theorem mw_X7_send : MW yX7_send cX7_send 3 (some (.int)) 0 := ⟨TB_of 441 rfl rfl, TB_of 45 rfl rfl, by decide +kernel, by decide +kernel⟩
set_option maxRecDepth 20000 in
theorem mw_X4_isFound : MW yX4_isFound cX4_isFound 1 (some (.boolean)) 0 := ⟨TB_of 445 rfl rfl, TB_of 50 rfl rfl, by decide +kernel, by decide +kernel⟩
set_option maxRecDepth 20000 in
theorem mw_Jx4a65c_size_8abf5 : MW yJx4a65c_size_8abf5 cJx4a65c_size_8abf5 1 (some (.int)) 0 := ⟨TB_of 449 rfl rfl, TB_of 55 rfl rfl, by decide +kernel, by decide +kernel⟩
set_option maxRecDepth 20000 in
theorem mw_J7_copyOf_59c91 : MW yJ7_copyOf_59c91 cJ7_copyOf_59c91 3 (some (.array .int)) 2 := ⟨TB_of 452 rfl rfl, TB_of 47 rfl rfl, by decide +kernel, by decide +kernel⟩
set_option maxRecDepth 20000 in
theorem mw_X6_init : MW yX6_init cX6_init 4 none 3 := ⟨TB_of 470 rfl rfl, TB_of 60 rfl rfl, by decide +kernel, by decide +kernel⟩
set_option maxRecDepth 20000 in
theorem mw_Jx4a65c_add_9ea2d : MW yJx4a65c_add_9ea2d cJx4a65c_add_9ea2d 2 (some (.boolean)) 1 := ⟨TB_of 492 rfl rfl, TB_of 55 rfl rfl, by decide +kernel, by decide +kernel⟩
set_option maxRecDepth 20000 in
theorem mw_Jx4a65c_add_72be8 : MW yJx4a65c_add_72be8 cJx4a65c_add_72be8 4 none 3 := ⟨TB_of 496 rfl rfl, TB_of 55 rfl rfl, by decide +kernel, by decide +kernel⟩
set_option maxRecDepth 20000 in
theorem mw_Jx4a65c_grow_d5877 : MW yJx4a65c_grow_d5877 cJx4a65c_grow_d5877 1 (some (.array (.object "java/lang/Object"))) 0 := ⟨TB_of 500 rfl rfl, TB_of 55 rfl rfl, by decide +kernel, by decide +kernel⟩
set_option maxRecDepth 20000 in
theorem mw_Jx4a65c_grow_92f84 : MW yJx4a65c_grow_92f84 cJx4a65c_grow_92f84 4 (some (.array (.object "java/lang/Object"))) 1 := ⟨TB_of 504 rfl rfl, TB_of 55 rfl rfl, by decide +kernel, by decide +kernel⟩
set_option maxRecDepth 20000 in
theorem mw_J8_newLength_cabcc : MW yJ8_newLength_cabcc cJ8_newLength_cabcc 4 (some (.int)) 3 := ⟨TB_of 507 rfl rfl, TB_of 61 rfl rfl, by decide +kernel, by decide +kernel⟩
set_option maxRecDepth 20000 in
theorem mw_J8_hugeLength_7cf53 : MW yJ8_hugeLength_7cf53 cJ8_hugeLength_7cf53 3 (some (.int)) 2 := ⟨TB_of 514 rfl rfl, TB_of 61 rfl rfl, by decide +kernel, by decide +kernel⟩
set_option maxRecDepth 20000 in
theorem mw_J7_copyOf_1904c : MW yJ7_copyOf_1904c cJ7_copyOf_1904c 2 (some (.array (.object "java/lang/Object"))) 2 := ⟨TB_of 517 rfl rfl, TB_of 47 rfl rfl, by decide +kernel, by decide +kernel⟩
set_option maxRecDepth 20000 in
theorem mw_J7_copyOf_6403c : MW yJ7_copyOf_6403c cJ7_copyOf_6403c 4 (some (.array (.object "java/lang/Object"))) 3 := ⟨TB_of 535 rfl rfl, TB_of 47 rfl rfl, by decide +kernel, by decide +kernel⟩
set_option maxRecDepth 20000 in
theorem mw_X7_endCut : MW yX7_endCut cX7_endCut 2 none 0 := ⟨TB_of 544 rfl rfl, TB_of 45 rfl rfl, by decide +kernel, by decide +kernel⟩
set_option maxRecDepth 20000 in
theorem mw_X7_giveUp : MW yX7_giveUp cX7_giveUp 1 (some (.boolean)) 0 := ⟨TB_of 548 rfl rfl, TB_of 45 rfl rfl, by decide +kernel, by decide +kernel⟩
set_option maxRecDepth 20000 in
theorem mw_X7_oneWay : MW yX7_oneWay cX7_oneWay 4 (some (.boolean)) 3 := ⟨TB_of 552 rfl rfl, TB_of 45 rfl rfl, by decide +kernel, by decide +kernel⟩
set_option maxRecDepth 20000 in
theorem mw_X3_add : MW yX3_add cX3_add 3 (some (.boolean)) 2 := ⟨TB_of 556 rfl rfl, TB_of 52 rfl rfl, by decide +kernel, by decide +kernel⟩
set_option maxRecDepth 20000 in
theorem mw_X3_find : MW yX3_find cX3_find 4 (some (.int)) 2 := ⟨TB_of 560 rfl rfl, TB_of 52 rfl rfl, by decide +kernel, by decide +kernel⟩
set_option maxRecDepth 20000 in
theorem mw_X3_remove : MW yX3_remove cX3_remove 4 (some (.boolean)) 2 := ⟨TB_of 564 rfl rfl, TB_of 52 rfl rfl, by decide +kernel, by decide +kernel⟩
set_option maxRecDepth 20000 in
theorem mw_X7_back : MW yX7_back cX7_back 3 (some (.int)) 0 := ⟨TB_of 568 rfl rfl, TB_of 45 rfl rfl, by decide +kernel, by decide +kernel⟩
set_option maxRecDepth 20000 in
theorem mw_X7_latestOut : MW yX7_latestOut cX7_latestOut 2 (some (.int)) 0 := ⟨TB_of 572 rfl rfl, TB_of 45 rfl rfl, by decide +kernel, by decide +kernel⟩
set_option maxRecDepth 20000 in
theorem mw_Jx4a65c_get_915e3 : MW yJx4a65c_get_915e3 cJx4a65c_get_915e3 2 (some (.object "java/lang/Object")) 1 := ⟨TB_of 576 rfl rfl, TB_of 55 rfl rfl, by decide +kernel, by decide +kernel⟩
set_option maxRecDepth 20000 in
theorem mw_J15_checkIndex_7cf53 : MW yJ15_checkIndex_7cf53 cJ15_checkIndex_7cf53 2 (some (.int)) 2 := ⟨TB_of 579 rfl rfl, TB_of 62 rfl rfl, by decide +kernel, by decide +kernel⟩
set_option maxRecDepth 20000 in
theorem mw_J3_checkIndex_8e157 : MW yJ3_checkIndex_8e157 cJ3_checkIndex_8e157 3 (some (.int)) 3 := ⟨TB_of 582 rfl rfl, TB_of 63 rfl rfl, by decide +kernel, by decide +kernel⟩
set_option maxRecDepth 20000 in
theorem mw_Jx4a65c_elementData_915e3 : MW yJx4a65c_elementData_915e3 cJx4a65c_elementData_915e3 2 (some (.object "java/lang/Object")) 1 := ⟨TB_of 586 rfl rfl, TB_of 55 rfl rfl, by decide +kernel, by decide +kernel⟩
set_option maxRecDepth 20000 in
theorem mw_X7_isStuck : MW yX7_isStuck cX7_isStuck 3 (some (.boolean)) 1 := ⟨TB_of 590 rfl rfl, TB_of 45 rfl rfl, by decide +kernel, by decide +kernel⟩
set_option maxRecDepth 20000 in
theorem mw_X7_bringHome : MW yX7_bringHome cX7_bringHome 4 none 2 := ⟨TB_of 595 rfl rfl, TB_of 45 rfl rfl, by decide +kernel, by decide +kernel⟩
set_option maxRecDepth 20000 in
theorem mw_X7_dropOffersAtHome : MW yX7_dropOffersAtHome cX7_dropOffersAtHome 2 none 0 := ⟨TB_of 599 rfl rfl, TB_of 45 rfl rfl, by decide +kernel, by decide +kernel⟩
set_option maxRecDepth 20000 in
theorem mw_X7_blame : MW yX7_blame cX7_blame 2 (some (.int)) 1 := ⟨TB_of 603 rfl rfl, TB_of 45 rfl rfl, by decide +kernel, by decide +kernel⟩
set_option maxRecDepth 20000 in
theorem mw_X0_follow : MW yX0_follow cX0_follow 8 none 2 := ⟨TB_of 607 rfl rfl, TB_of 51 rfl rfl, by decide +kernel, by decide +kernel⟩
set_option maxRecDepth 20000 in
theorem mw_X0_isRed : MW yX0_isRed cX0_isRed 3 (some (.boolean)) 2 := ⟨TB_of 611 rfl rfl, TB_of 51 rfl rfl, by decide +kernel, by decide +kernel⟩
set_option maxRecDepth 20000 in
theorem mw_X0_withoutPiece : MW yX0_withoutPiece cX0_withoutPiece 9 (some (.int)) 2 := ⟨TB_of 617 rfl rfl, TB_of 51 rfl rfl, by decide +kernel, by decide +kernel⟩
set_option maxRecDepth 20000 in
theorem mw_X0_withoutLowest : MW yX0_withoutLowest cX0_withoutLowest 4 (some (.int)) 2 := ⟨TB_of 620 rfl rfl, TB_of 51 rfl rfl, by decide +kernel, by decide +kernel⟩
set_option maxRecDepth 20000 in
theorem mw_X7_runs : MW yX7_runs cX7_runs 2 (some (.int)) 1 := ⟨TB_of 627 rfl rfl, TB_of 45 rfl rfl, by decide +kernel, by decide +kernel⟩
set_option maxRecDepth 20000 in
theorem mw_X7_told : MW yX7_told cX7_told 3 (some (.int)) 2 := ⟨TB_of 631 rfl rfl, TB_of 45 rfl rfl, by decide +kernel, by decide +kernel⟩
set_option maxRecDepth 20000 in
theorem mw_X7_brought : MW yX7_brought cX7_brought 2 (some (.int)) 1 := ⟨TB_of 635 rfl rfl, TB_of 45 rfl rfl, by decide +kernel, by decide +kernel⟩
set_option maxRecDepth 20000 in
theorem mw_X7_isTrain : MW yX7_isTrain cX7_isTrain 2 (some (.boolean)) 1 := ⟨TB_of 639 rfl rfl, TB_of 45 rfl rfl, by decide +kernel, by decide +kernel⟩
set_option maxRecDepth 20000 in
theorem mw_X7_count : MW yX7_count cX7_count 2 (some (.int)) 1 := ⟨TB_of 643 rfl rfl, TB_of 45 rfl rfl, by decide +kernel, by decide +kernel⟩
set_option maxRecDepth 20000 in
theorem mw_X7_trainsOut : MW yX7_trainsOut cX7_trainsOut 3 (some (.int)) 0 := ⟨TB_of 647 rfl rfl, TB_of 45 rfl rfl, by decide +kernel, by decide +kernel⟩
set_option maxRecDepth 20000 in
theorem mw_X7_was : MW yX7_was cX7_was 6 (some (.int)) 3 := ⟨TB_of 656 rfl rfl, TB_of 45 rfl rfl, by decide +kernel, by decide +kernel⟩
set_option maxRecDepth 20000 in
theorem mw_X8_init : MW yX8_init cX8_init 1 none 0 := ⟨TB_of 728 rfl rfl, TB_of 56 rfl rfl, by decide +kernel, by decide +kernel⟩
set_option maxRecDepth 20000 in
theorem mw_X8_thrown : MW yX8_thrown cX8_thrown 1 (some (.int)) 0 := ⟨TB_of 834 rfl rfl, TB_of 56 rfl rfl, by decide +kernel, by decide +kernel⟩
set_option maxRecDepth 20000 in
theorem mw_X8_part : MW yX8_part cX8_part 2 (some (.int)) 1 := ⟨TB_of 838 rfl rfl, TB_of 56 rfl rfl, by decide +kernel, by decide +kernel⟩
set_option maxRecDepth 20000 in
theorem mw_X8_isIn : MW yX8_isIn cX8_isIn 3 (some (.boolean)) 3 := ⟨TB_of 841 rfl rfl, TB_of 56 rfl rfl, by decide +kernel, by decide +kernel⟩
set_option maxRecDepth 20000 in
theorem mw_X8_offer : MW yX8_offer cX8_offer 4 (some (.boolean)) 3 := ⟨TB_of 845 rfl rfl, TB_of 56 rfl rfl, by decide +kernel, by decide +kernel⟩
set_option maxRecDepth 20000 in
theorem mw_X8_isPart : MW yX8_isPart cX8_isPart 2 (some (.boolean)) 1 := ⟨TB_of 849 rfl rfl, TB_of 56 rfl rfl, by decide +kernel, by decide +kernel⟩
set_option maxRecDepth 20000 in
theorem mw_X8_isOf : MW yX8_isOf cX8_isOf 2 (some (.boolean)) 2 := ⟨TB_of 852 rfl rfl, TB_of 56 rfl rfl, by decide +kernel, by decide +kernel⟩
set_option maxRecDepth 20000 in
theorem mw_X8_withdraw : MW yX8_withdraw cX8_withdraw 2 (some (.boolean)) 1 := ⟨TB_of 856 rfl rfl, TB_of 56 rfl rfl, by decide +kernel, by decide +kernel⟩
set_option maxRecDepth 20000 in
theorem mw_X8_need : MW yX8_need cX8_need 6 (some (.int)) 5 := ⟨TB_of 860 rfl rfl, TB_of 56 rfl rfl, by decide +kernel, by decide +kernel⟩
set_option maxRecDepth 20000 in
theorem mw_X8_test : MW yX8_test cX8_test 2 (some (.int)) 1 := ⟨TB_of 864 rfl rfl, TB_of 56 rfl rfl, by decide +kernel, by decide +kernel⟩
set_option maxRecDepth 20000 in
theorem mw_X8_isSet : MW yX8_isSet cX8_isSet 2 (some (.boolean)) 1 := ⟨TB_of 868 rfl rfl, TB_of 56 rfl rfl, by decide +kernel, by decide +kernel⟩
set_option maxRecDepth 20000 in
theorem mw_X8_fits : MW yX8_fits cX8_fits 2 (some (.int)) 1 := ⟨TB_of 872 rfl rfl, TB_of 56 rfl rfl, by decide +kernel, by decide +kernel⟩
set_option maxRecDepth 20000 in
theorem mw_X8_offered : MW yX8_offered cX8_offered 3 (some (.int)) 0 := ⟨TB_of 876 rfl rfl, TB_of 56 rfl rfl, by decide +kernel, by decide +kernel⟩
set_option maxRecDepth 20000 in
theorem mw_X8_broken : MW yX8_broken cX8_broken 3 (some (.int)) 1 := ⟨TB_of 880 rfl rfl, TB_of 56 rfl rfl, by decide +kernel, by decide +kernel⟩
set_option maxRecDepth 20000 in
theorem mw_X8_version : MW yX8_version cX8_version 3 (some (.int)) 2 := ⟨TB_of 884 rfl rfl, TB_of 56 rfl rfl, by decide +kernel, by decide +kernel⟩
set_option maxRecDepth 20000 in
theorem mw_X8_red : MW yX8_red cX8_red 2 (some (.int)) 1 := ⟨TB_of 888 rfl rfl, TB_of 56 rfl rfl, by decide +kernel, by decide +kernel⟩
set_option maxRecDepth 20000 in
theorem mw_X8_redOf : MW yX8_redOf cX8_redOf 3 (some (.int)) 1 := ⟨TB_of 892 rfl rfl, TB_of 56 rfl rfl, by decide +kernel, by decide +kernel⟩
set_option maxRecDepth 20000 in
theorem mw_X8_cut : MW yX8_cut cX8_cut 2 (some (.int)) 0 := ⟨TB_of 896 rfl rfl, TB_of 56 rfl rfl, by decide +kernel, by decide +kernel⟩
set_option maxRecDepth 20000 in
theorem mw_X8_best : MW yX8_best cX8_best 6 (some (.int)) 2 := ⟨TB_of 900 rfl rfl, TB_of 56 rfl rfl, by decide +kernel, by decide +kernel⟩
set_option maxRecDepth 20000 in
theorem mw_X8_goes : MW yX8_goes cX8_goes 2 (some (.boolean)) 1 := ⟨TB_of 904 rfl rfl, TB_of 56 rfl rfl, by decide +kernel, by decide +kernel⟩
set_option maxRecDepth 20000 in
theorem mw_X8_worthOf : MW yX8_worthOf cX8_worthOf 4 (some (.int)) 1 := ⟨TB_of 908 rfl rfl, TB_of 56 rfl rfl, by decide +kernel, by decide +kernel⟩
set_option maxRecDepth 20000 in
theorem mw_X8_chosen : MW yX8_chosen cX8_chosen 1 (some (.int)) 0 := ⟨TB_of 912 rfl rfl, TB_of 56 rfl rfl, by decide +kernel, by decide +kernel⟩
set_option maxRecDepth 20000 in
theorem mw_X8_worth : MW yX8_worth cX8_worth 1 (some (.int)) 0 := ⟨TB_of 916 rfl rfl, TB_of 56 rfl rfl, by decide +kernel, by decide +kernel⟩
set_option maxRecDepth 20000 in
theorem mw_X8_why : MW yX8_why cX8_why 3 (some (.int)) 1 := ⟨TB_of 920 rfl rfl, TB_of 56 rfl rfl, by decide +kernel, by decide +kernel⟩
set_option maxRecDepth 20000 in
theorem mw_X8_fix : MW yX8_fix cX8_fix 4 (some (.int)) 3 := ⟨TB_of 924 rfl rfl, TB_of 56 rfl rfl, by decide +kernel, by decide +kernel⟩
set_option maxRecDepth 20000 in
theorem mw_X8_tries : MW yX8_tries cX8_tries 4 (some (.boolean)) 3 := ⟨TB_of 928 rfl rfl, TB_of 56 rfl rfl, by decide +kernel, by decide +kernel⟩
set_option maxRecDepth 20000 in
theorem mw_X8_leave : MW yX8_leave cX8_leave 5 (some (.int)) 3 := ⟨TB_of 932 rfl rfl, TB_of 56 rfl rfl, by decide +kernel, by decide +kernel⟩
set_option maxRecDepth 20000 in
theorem mw_X8_order : MW yX8_order cX8_order 2 (some (.int)) 1 := ⟨TB_of 936 rfl rfl, TB_of 56 rfl rfl, by decide +kernel, by decide +kernel⟩
set_option maxRecDepth 20000 in
theorem mw_X8_orders : MW yX8_orders cX8_orders 2 (some (.boolean)) 0 := ⟨TB_of 940 rfl rfl, TB_of 56 rfl rfl, by decide +kernel, by decide +kernel⟩
set_option maxRecDepth 20000 in
theorem mw_X8_goesOut : MW yX8_goesOut cX8_goesOut 4 (some (.boolean)) 2 := ⟨TB_of 944 rfl rfl, TB_of 56 rfl rfl, by decide +kernel, by decide +kernel⟩
set_option maxRecDepth 20000 in
theorem mw_X8_send : MW yX8_send cX8_send 2 (some (.int)) 0 := ⟨TB_of 948 rfl rfl, TB_of 56 rfl rfl, by decide +kernel, by decide +kernel⟩
set_option maxRecDepth 20000 in
theorem mw_X8_next : MW yX8_next cX8_next 2 none 0 := ⟨TB_of 952 rfl rfl, TB_of 56 rfl rfl, by decide +kernel, by decide +kernel⟩
set_option maxRecDepth 20000 in
theorem mw_X8_giveUp : MW yX8_giveUp cX8_giveUp 1 (some (.boolean)) 0 := ⟨TB_of 956 rfl rfl, TB_of 56 rfl rfl, by decide +kernel, by decide +kernel⟩
set_option maxRecDepth 20000 in
theorem mw_X8_oneWay : MW yX8_oneWay cX8_oneWay 5 (some (.boolean)) 3 := ⟨TB_of 960 rfl rfl, TB_of 56 rfl rfl, by decide +kernel, by decide +kernel⟩
set_option maxRecDepth 20000 in
theorem mw_X8_way : MW yX8_way cX8_way 4 (some (.int)) 2 := ⟨TB_of 964 rfl rfl, TB_of 56 rfl rfl, by decide +kernel, by decide +kernel⟩
set_option maxRecDepth 20000 in
theorem mw_X8_back : MW yX8_back cX8_back 4 (some (.int)) 0 := ⟨TB_of 968 rfl rfl, TB_of 56 rfl rfl, by decide +kernel, by decide +kernel⟩
set_option maxRecDepth 20000 in
theorem mw_X8_blame : MW yX8_blame cX8_blame 2 (some (.int)) 1 := ⟨TB_of 974 rfl rfl, TB_of 56 rfl rfl, by decide +kernel, by decide +kernel⟩
set_option maxRecDepth 20000 in
theorem mw_X8_blames : MW yX8_blames cX8_blames 7 none 1 := ⟨TB_of 978 rfl rfl, TB_of 56 rfl rfl, by decide +kernel, by decide +kernel⟩
set_option maxRecDepth 20000 in
theorem mw_X8_isRed : MW yX8_isRed cX8_isRed 2 (some (.boolean)) 1 := ⟨TB_of 982 rfl rfl, TB_of 56 rfl rfl, by decide +kernel, by decide +kernel⟩
set_option maxRecDepth 20000 in
theorem mw_X8_piece : MW yX8_piece cX8_piece 10 (some (.int)) 3 := ⟨TB_of 987 rfl rfl, TB_of 56 rfl rfl, by decide +kernel, by decide +kernel⟩
set_option maxRecDepth 20000 in
theorem mw_X8_runs : MW yX8_runs cX8_runs 2 (some (.int)) 1 := ⟨TB_of 993 rfl rfl, TB_of 56 rfl rfl, by decide +kernel, by decide +kernel⟩
set_option maxRecDepth 20000 in
theorem mw_X8_told : MW yX8_told cX8_told 3 (some (.int)) 2 := ⟨TB_of 997 rfl rfl, TB_of 56 rfl rfl, by decide +kernel, by decide +kernel⟩
set_option maxRecDepth 20000 in
theorem mw_X8_was : MW yX8_was cX8_was 4 (some (.int)) 3 := ⟨TB_of 1001 rfl rfl, TB_of 56 rfl rfl, by decide +kernel, by decide +kernel⟩
set_option maxRecDepth 20000 in
theorem mw_X8_brought : MW yX8_brought cX8_brought 2 (some (.int)) 1 := ⟨TB_of 1005 rfl rfl, TB_of 56 rfl rfl, by decide +kernel, by decide +kernel⟩
set_option maxRecDepth 20000 in
theorem mw_X8_count : MW yX8_count cX8_count 4 (some (.int)) 1 := ⟨TB_of 1009 rfl rfl, TB_of 56 rfl rfl, by decide +kernel, by decide +kernel⟩
set_option maxRecDepth 20000 in
theorem mi_L_15 : MI RL 15 yX7_init := ⟨TB_of 70 rfl rfl, TB_of 71 rfl rfl, rfl⟩
set_option maxRecDepth 20000 in
theorem mi_X7_15 : MI RX7 15 yX2_init := ⟨TB_of 78 rfl rfl, TB_of 79 rfl rfl, rfl⟩
set_option maxRecDepth 20000 in
theorem ms_X2_18 : MS RX2 18 yJ7_fill_53178 := ⟨TB_of 82 rfl rfl, TB_of 83 rfl rfl⟩
set_option maxRecDepth 20000 in
theorem mi_X7_25 : MI RX7 25 yX1_init := ⟨TB_of 95 rfl rfl, TB_of 96 rfl rfl, rfl⟩
set_option maxRecDepth 20000 in
theorem mi_X7_32 : MI RX7 32 yX5_init := ⟨TB_of 127 rfl rfl, TB_of 128 rfl rfl, rfl⟩
set_option maxRecDepth 20000 in
theorem mi_X7_39 : MI RX7 39 yX4_init := ⟨TB_of 141 rfl rfl, TB_of 142 rfl rfl, rfl⟩
set_option maxRecDepth 20000 in
theorem mi_X7_53 : MI RX7 53 yX3_init := ⟨TB_of 169 rfl rfl, TB_of 170 rfl rfl, rfl⟩
set_option maxRecDepth 20000 in
theorem mi_X7_60 : MI RX7 60 yJx4a65c_init_da8c8 := ⟨TB_of 186 rfl rfl, TB_of 187 rfl rfl, rfl⟩
set_option maxRecDepth 20000 in
theorem mi_Jx4a65c_1 : MI RJx4a65c 1 yJxc12de_init_da8c8 := ⟨TB_of 189 rfl rfl, TB_of 190 rfl rfl, rfl⟩
set_option maxRecDepth 20000 in
theorem mi_Jxc12de_1 : MI RJxc12de 1 yJxa1e45_init_da8c8 := ⟨TB_of 192 rfl rfl, TB_of 193 rfl rfl, rfl⟩
set_option maxRecDepth 20000 in
theorem mv_L_19 : MV RL 19 yX7_part := ⟨TB_of 244 rfl rfl, TB_of 245 rfl rfl, TB_of 246 rfl rfl⟩
set_option maxRecDepth 20000 in
theorem mv_X7_72 : MV RX7 72 yX7_isCutAtHand := ⟨TB_of 248 rfl rfl, TB_of 250 rfl rfl, TB_of 0 rfl rfl⟩
set_option maxRecDepth 20000 in
theorem ms_X7_76 : MS RX7 76 yX7_isVersion := ⟨TB_of 252 rfl rfl, TB_of 253 rfl rfl⟩
set_option maxRecDepth 20000 in
theorem mv_L_24 : MV RL 24 yX7_offer := ⟨TB_of 255 rfl rfl, TB_of 256 rfl rfl, TB_of 257 rfl rfl⟩
set_option maxRecDepth 20000 in
theorem mv_X7_80 : MV RX7 80 yX7_isPart := ⟨TB_of 259 rfl rfl, TB_of 261 rfl rfl, TB_of 1 rfl rfl⟩
set_option maxRecDepth 20000 in
theorem ms_X7_83 : MS RX7 83 yX7_isWorth := ⟨TB_of 263 rfl rfl, TB_of 264 rfl rfl⟩
set_option maxRecDepth 20000 in
theorem mv_X7_86 : MV RX7 86 yX7_homeToCome := ⟨TB_of 266 rfl rfl, TB_of 268 rfl rfl, TB_of 2 rfl rfl⟩
set_option maxRecDepth 20000 in
theorem mv_X7_134 : MV RX7 134 yX7_isChosen := ⟨TB_of 270 rfl rfl, TB_of 272 rfl rfl, TB_of 3 rfl rfl⟩
set_option maxRecDepth 20000 in
theorem mv_X7_141 : MV RX7 141 yX2_versionOf := ⟨TB_of 274 rfl rfl, TB_of 275 rfl rfl, TB_of 276 rfl rfl⟩
set_option maxRecDepth 20000 in
theorem mv_X7_90 : MV RX7 90 yX7_openOffers := ⟨TB_of 278 rfl rfl, TB_of 280 rfl rfl, TB_of 4 rfl rfl⟩
set_option maxRecDepth 20000 in
theorem mv_X7_94 : MV RX7 94 yX2_put := ⟨TB_of 282 rfl rfl, TB_of 283 rfl rfl, TB_of 284 rfl rfl⟩
set_option maxRecDepth 20000 in
theorem mv_L_29 : MV RL 29 yX7_withdraw := ⟨TB_of 286 rfl rfl, TB_of 287 rfl rfl, TB_of 288 rfl rfl⟩
set_option maxRecDepth 20000 in
theorem mv_X7_98 : MV RX7 98 yX2_has := ⟨TB_of 290 rfl rfl, TB_of 291 rfl rfl, TB_of 292 rfl rfl⟩
set_option maxRecDepth 20000 in
theorem mv_X2_24 : MV RX2 24 yX2_versionOf := ⟨TB_of 294 rfl rfl, TB_of 275 rfl rfl, TB_of 276 rfl rfl⟩
set_option maxRecDepth 20000 in
theorem mv_X7_101 : MV RX7 101 yX2_drop := ⟨TB_of 295 rfl rfl, TB_of 296 rfl rfl, TB_of 297 rfl rfl⟩
set_option maxRecDepth 20000 in
theorem mv_X2_28 : MV RX2 28 yX2_put := ⟨TB_of 299 rfl rfl, TB_of 283 rfl rfl, TB_of 284 rfl rfl⟩
set_option maxRecDepth 20000 in
theorem mv_L_34 : MV RL 34 yX7_need := ⟨TB_of 300 rfl rfl, TB_of 301 rfl rfl, TB_of 302 rfl rfl⟩
set_option maxRecDepth 20000 in
theorem mv_X7_105 : MV RX7 105 yX1_add := ⟨TB_of 304 rfl rfl, TB_of 305 rfl rfl, TB_of 306 rfl rfl⟩
set_option maxRecDepth 20000 in
theorem mv_L_39 : MV RL 39 yX7_test := ⟨TB_of 308 rfl rfl, TB_of 309 rfl rfl, TB_of 310 rfl rfl⟩
set_option maxRecDepth 20000 in
theorem mv_X7_109 : MV RX7 109 yX7_areParts := ⟨TB_of 312 rfl rfl, TB_of 314 rfl rfl, TB_of 5 rfl rfl⟩
set_option maxRecDepth 20000 in
theorem mv_X7_112 : MV RX7 112 yX5_add := ⟨TB_of 316 rfl rfl, TB_of 317 rfl rfl, TB_of 318 rfl rfl⟩
set_option maxRecDepth 20000 in
theorem mv_L_43 : MV RL 43 yX7_fits := ⟨TB_of 320 rfl rfl, TB_of 321 rfl rfl, TB_of 322 rfl rfl⟩
set_option maxRecDepth 20000 in
theorem mv_X7_114 : MV RX7 114 yX2_mask := ⟨TB_of 324 rfl rfl, TB_of 325 rfl rfl, TB_of 326 rfl rfl⟩
set_option maxRecDepth 20000 in
theorem mv_X7_118 : MV RX7 118 yX7_firstBroken := ⟨TB_of 328 rfl rfl, TB_of 330 rfl rfl, TB_of 6 rfl rfl⟩
set_option maxRecDepth 20000 in
theorem mv_X7_147 : MV RX7 147 yX1_weigh := ⟨TB_of 332 rfl rfl, TB_of 333 rfl rfl, TB_of 334 rfl rfl⟩
set_option maxRecDepth 20000 in
theorem mv_X1_37 : MV RX1 37 yX1_weighOne := ⟨TB_of 336 rfl rfl, TB_of 338 rfl rfl, TB_of 7 rfl rfl⟩
set_option maxRecDepth 20000 in
theorem mv_X1_41 : MV RX1 41 yX2_has := ⟨TB_of 340 rfl rfl, TB_of 291 rfl rfl, TB_of 292 rfl rfl⟩
set_option maxRecDepth 20000 in
theorem mv_X1_47 : MV RX1 47 yX2_versionOf := ⟨TB_of 341 rfl rfl, TB_of 275 rfl rfl, TB_of 276 rfl rfl⟩
set_option maxRecDepth 20000 in
theorem mv_X1_51 : MV RX1 51 yX1_holds := ⟨TB_of 342 rfl rfl, TB_of 344 rfl rfl, TB_of 8 rfl rfl⟩
set_option maxRecDepth 20000 in
theorem mv_X1_55 : MV RX1 55 yX1_neverBreaks := ⟨TB_of 346 rfl rfl, TB_of 348 rfl rfl, TB_of 9 rfl rfl⟩
set_option maxRecDepth 20000 in
theorem mv_X7_250 : MV RX7 250 yX1_firstBroken := ⟨TB_of 350 rfl rfl, TB_of 351 rfl rfl, TB_of 352 rfl rfl⟩
set_option maxRecDepth 20000 in
theorem mv_L_47 : MV RL 47 yX7_red := ⟨TB_of 354 rfl rfl, TB_of 355 rfl rfl, TB_of 356 rfl rfl⟩
set_option maxRecDepth 20000 in
theorem mv_X7_121 : MV RX7 121 yX5_firstRed := ⟨TB_of 358 rfl rfl, TB_of 359 rfl rfl, TB_of 360 rfl rfl⟩
set_option maxRecDepth 20000 in
theorem mv_L_51 : MV RL 51 yX7_cut := ⟨TB_of 362 rfl rfl, TB_of 363 rfl rfl, TB_of 364 rfl rfl⟩
set_option maxRecDepth 20000 in
theorem mv_X7_124 : MV RX7 124 yX7_greatest := ⟨TB_of 366 rfl rfl, TB_of 368 rfl rfl, TB_of 10 rfl rfl⟩
set_option maxRecDepth 20000 in
theorem mv_X7_131 : MV RX7 131 yX2_sum := ⟨TB_of 370 rfl rfl, TB_of 371 rfl rfl, TB_of 372 rfl rfl⟩
set_option maxRecDepth 20000 in
theorem ms_X7_251 : MS RX7 251 yX7_hasLowerPart := ⟨TB_of 374 rfl rfl, TB_of 375 rfl rfl⟩
set_option maxRecDepth 20000 in
theorem ms_X7_254 : MS RX7 254 yJ6_lowestOneBit_0f7a4 := ⟨TB_of 377 rfl rfl, TB_of 378 rfl rfl⟩
set_option maxRecDepth 20000 in
theorem mv_X7_151 : MV RX7 151 yX7_goes := ⟨TB_of 380 rfl rfl, TB_of 382 rfl rfl, TB_of 11 rfl rfl⟩
set_option maxRecDepth 20000 in
theorem mv_X7_128 : MV RX7 128 yX7_choose := ⟨TB_of 384 rfl rfl, TB_of 386 rfl rfl, TB_of 12 rfl rfl⟩
set_option maxRecDepth 20000 in
theorem mv_X7_257 : MV RX7 257 yX4_plan := ⟨TB_of 388 rfl rfl, TB_of 389 rfl rfl, TB_of 390 rfl rfl⟩
set_option maxRecDepth 20000 in
theorem ms_X4_19 : MS RX4 19 yJ6_bitCount_0f7a4 := ⟨TB_of 392 rfl rfl, TB_of 393 rfl rfl⟩
set_option maxRecDepth 20000 in
theorem mv_X4_25 : MV RX4 25 yX1_firstBroken := ⟨TB_of 398 rfl rfl, TB_of 351 rfl rfl, TB_of 352 rfl rfl⟩
set_option maxRecDepth 20000 in
theorem ms_X4_30 : MS RX4 30 yX4_firstOpen := ⟨TB_of 399 rfl rfl, TB_of 400 rfl rfl⟩
set_option maxRecDepth 20000 in
theorem mv_L_56 : MV RL 56 yX7_chosen := ⟨TB_of 402 rfl rfl, TB_of 403 rfl rfl, TB_of 404 rfl rfl⟩
set_option maxRecDepth 20000 in
theorem mv_L_60 : MV RL 60 yX7_worth := ⟨TB_of 406 rfl rfl, TB_of 407 rfl rfl, TB_of 408 rfl rfl⟩
set_option maxRecDepth 20000 in
theorem mv_L_64 : MV RL 64 yX7_why := ⟨TB_of 410 rfl rfl, TB_of 411 rfl rfl, TB_of 412 rfl rfl⟩
set_option maxRecDepth 20000 in
theorem mv_L_68 : MV RL 68 yX7_fix := ⟨TB_of 414 rfl rfl, TB_of 415 rfl rfl, TB_of 416 rfl rfl⟩
set_option maxRecDepth 20000 in
theorem mv_X7_137 : MV RX7 137 yX7_mayFix := ⟨TB_of 418 rfl rfl, TB_of 420 rfl rfl, TB_of 13 rfl rfl⟩
set_option maxRecDepth 20000 in
theorem mv_X7_144 : MV RX7 144 yX2_worthOf := ⟨TB_of 422 rfl rfl, TB_of 423 rfl rfl, TB_of 424 rfl rfl⟩
set_option maxRecDepth 20000 in
theorem mv_L_73 : MV RL 73 yX7_leave := ⟨TB_of 426 rfl rfl, TB_of 427 rfl rfl, TB_of 428 rfl rfl⟩
set_option maxRecDepth 20000 in
theorem mv_L_77 : MV RL 77 yX7_order := ⟨TB_of 430 rfl rfl, TB_of 431 rfl rfl, TB_of 432 rfl rfl⟩
set_option maxRecDepth 20000 in
theorem mv_X7_154 : MV RX7 154 yX4_partAt := ⟨TB_of 434 rfl rfl, TB_of 435 rfl rfl, TB_of 436 rfl rfl⟩
set_option maxRecDepth 20000 in
theorem mv_L_81 : MV RL 81 yX7_send := ⟨TB_of 438 rfl rfl, TB_of 439 rfl rfl, TB_of 440 rfl rfl⟩
set_option maxRecDepth 20000 in
theorem mv_X7_157 : MV RX7 157 yX4_isFound := ⟨TB_of 442 rfl rfl, TB_of 443 rfl rfl, TB_of 444 rfl rfl⟩
set_option maxRecDepth 20000 in
theorem mv_X7_160 : MV RX7 160 yJx4a65c_size_8abf5 := ⟨TB_of 446 rfl rfl, TB_of 447 rfl rfl, TB_of 448 rfl rfl⟩
set_option maxRecDepth 20000 in
theorem ms_X7_163 : MS RX7 163 yJ7_copyOf_59c91 := ⟨TB_of 450 rfl rfl, TB_of 451 rfl rfl⟩
set_option maxRecDepth 20000 in
theorem ms_J7_304 : MS RJ7 304 yJ9_min_7cf53 := ⟨TB_of 460 rfl rfl, TB_of 461 rfl rfl⟩
set_option maxRecDepth 20000 in
theorem mi_X7_171 : MI RX7 171 yX6_init := ⟨TB_of 468 rfl rfl, TB_of 469 rfl rfl, rfl⟩
set_option maxRecDepth 20000 in
theorem mv_X7_174 : MV RX7 174 yJx4a65c_add_9ea2d := ⟨TB_of 489 rfl rfl, TB_of 490 rfl rfl, TB_of 491 rfl rfl⟩
set_option maxRecDepth 20000 in
theorem mv_Jx4a65c_131 : MV RJx4a65c 131 yJx4a65c_add_72be8 := ⟨TB_of 493 rfl rfl, TB_of 495 rfl rfl, TB_of 14 rfl rfl⟩
set_option maxRecDepth 20000 in
theorem mv_Jx4a65c_129 : MV RJx4a65c 129 yJx4a65c_grow_d5877 := ⟨TB_of 497 rfl rfl, TB_of 499 rfl rfl, TB_of 15 rfl rfl⟩
set_option maxRecDepth 20000 in
theorem mv_Jx4a65c_69 : MV RJx4a65c 69 yJx4a65c_grow_92f84 := ⟨TB_of 501 rfl rfl, TB_of 503 rfl rfl, TB_of 16 rfl rfl⟩
set_option maxRecDepth 20000 in
theorem ms_Jx4a65c_73 : MS RJx4a65c 73 yJ8_newLength_cabcc := ⟨TB_of 505 rfl rfl, TB_of 506 rfl rfl⟩
set_option maxRecDepth 20000 in
theorem ms_J8_194 : MS RJ8 194 yJ9_max_7cf53 := ⟨TB_of 508 rfl rfl, TB_of 509 rfl rfl⟩
set_option maxRecDepth 20000 in
theorem ms_J8_201 : MS RJ8 201 yJ8_hugeLength_7cf53 := ⟨TB_of 512 rfl rfl, TB_of 513 rfl rfl⟩
set_option maxRecDepth 20000 in
theorem ms_Jx4a65c_66 : MS RJx4a65c 66 yJ7_copyOf_1904c := ⟨TB_of 515 rfl rfl, TB_of 516 rfl rfl⟩
set_option maxRecDepth 20000 in
theorem ms_J7_300 : MS RJ7 300 yJ7_copyOf_6403c := ⟨TB_of 533 rfl rfl, TB_of 534 rfl rfl⟩
set_option maxRecDepth 20000 in
theorem ms_Jx4a65c_79 : MS RJx4a65c 79 yJ9_max_7cf53 := ⟨TB_of 539 rfl rfl, TB_of 509 rfl rfl⟩
set_option maxRecDepth 20000 in
theorem mv_X7_177 : MV RX7 177 yX7_endCut := ⟨TB_of 541 rfl rfl, TB_of 543 rfl rfl, TB_of 17 rfl rfl⟩
set_option maxRecDepth 20000 in
theorem mv_L_85 : MV RL 85 yX7_giveUp := ⟨TB_of 545 rfl rfl, TB_of 546 rfl rfl, TB_of 547 rfl rfl⟩
set_option maxRecDepth 20000 in
theorem mv_L_90 : MV RL 90 yX7_oneWay := ⟨TB_of 549 rfl rfl, TB_of 550 rfl rfl, TB_of 551 rfl rfl⟩
set_option maxRecDepth 20000 in
theorem mv_X7_180 : MV RX7 180 yX3_add := ⟨TB_of 553 rfl rfl, TB_of 554 rfl rfl, TB_of 555 rfl rfl⟩
set_option maxRecDepth 20000 in
theorem mv_X3_22 : MV RX3 22 yX3_find := ⟨TB_of 557 rfl rfl, TB_of 558 rfl rfl, TB_of 559 rfl rfl⟩
set_option maxRecDepth 20000 in
theorem mv_X7_183 : MV RX7 183 yX3_remove := ⟨TB_of 561 rfl rfl, TB_of 562 rfl rfl, TB_of 563 rfl rfl⟩
set_option maxRecDepth 20000 in
theorem mv_L_95 : MV RL 95 yX7_back := ⟨TB_of 565 rfl rfl, TB_of 566 rfl rfl, TB_of 567 rfl rfl⟩
set_option maxRecDepth 20000 in
theorem mv_X7_186 : MV RX7 186 yX7_latestOut := ⟨TB_of 569 rfl rfl, TB_of 571 rfl rfl, TB_of 18 rfl rfl⟩
set_option maxRecDepth 20000 in
theorem mv_X7_189 : MV RX7 189 yJx4a65c_get_915e3 := ⟨TB_of 573 rfl rfl, TB_of 574 rfl rfl, TB_of 575 rfl rfl⟩
set_option maxRecDepth 20000 in
theorem ms_Jx4a65c_118 : MS RJx4a65c 118 yJ15_checkIndex_7cf53 := ⟨TB_of 577 rfl rfl, TB_of 578 rfl rfl⟩
set_option maxRecDepth 20000 in
theorem ms_J15_105 : MS RJ15 105 yJ3_checkIndex_8e157 := ⟨TB_of 580 rfl rfl, TB_of 581 rfl rfl⟩
set_option maxRecDepth 20000 in
theorem mv_Jx4a65c_123 : MV RJx4a65c 123 yJx4a65c_elementData_915e3 := ⟨TB_of 583 rfl rfl, TB_of 584 rfl rfl, TB_of 585 rfl rfl⟩
set_option maxRecDepth 20000 in
theorem mv_X7_196 : MV RX7 196 yX7_isStuck := ⟨TB_of 587 rfl rfl, TB_of 589 rfl rfl, TB_of 19 rfl rfl⟩
set_option maxRecDepth 20000 in
theorem mv_X7_261 : MV RX7 261 yX3_find := ⟨TB_of 591 rfl rfl, TB_of 558 rfl rfl, TB_of 559 rfl rfl⟩
set_option maxRecDepth 20000 in
theorem mv_X7_202 : MV RX7 202 yX7_bringHome := ⟨TB_of 592 rfl rfl, TB_of 594 rfl rfl, TB_of 20 rfl rfl⟩
set_option maxRecDepth 20000 in
theorem mv_X7_213 : MV RX7 213 yX7_dropOffersAtHome := ⟨TB_of 596 rfl rfl, TB_of 598 rfl rfl, TB_of 21 rfl rfl⟩
set_option maxRecDepth 20000 in
theorem mv_L_99 : MV RL 99 yX7_blame := ⟨TB_of 600 rfl rfl, TB_of 601 rfl rfl, TB_of 602 rfl rfl⟩
set_option maxRecDepth 20000 in
theorem mv_X7_216 : MV RX7 216 yX0_follow := ⟨TB_of 604 rfl rfl, TB_of 605 rfl rfl, TB_of 606 rfl rfl⟩
set_option maxRecDepth 20000 in
theorem mv_X0_15 : MV RX0 15 yX0_isRed := ⟨TB_of 608 rfl rfl, TB_of 610 rfl rfl, TB_of 22 rfl rfl⟩
set_option maxRecDepth 20000 in
theorem mv_X0_41 : MV RX0 41 yX5_firstRed := ⟨TB_of 612 rfl rfl, TB_of 359 rfl rfl, TB_of 360 rfl rfl⟩
set_option maxRecDepth 20000 in
theorem ms_X0_22 : MS RX0 22 yJ6_bitCount_0f7a4 := ⟨TB_of 613 rfl rfl, TB_of 393 rfl rfl⟩
set_option maxRecDepth 20000 in
theorem mv_X0_28 : MV RX0 28 yX0_withoutPiece := ⟨TB_of 614 rfl rfl, TB_of 616 rfl rfl, TB_of 23 rfl rfl⟩
set_option maxRecDepth 20000 in
theorem ms_X0_46 : MS RX0 46 yX0_withoutLowest := ⟨TB_of 618 rfl rfl, TB_of 619 rfl rfl⟩
set_option maxRecDepth 20000 in
theorem ms_X0_49 : MS RX0 49 yJ6_lowestOneBit_0f7a4 := ⟨TB_of 621 rfl rfl, TB_of 378 rfl rfl⟩
set_option maxRecDepth 20000 in
theorem ms_X0_32 : MS RX0 32 yJ9_max_7cf53 := ⟨TB_of 622 rfl rfl, TB_of 509 rfl rfl⟩
set_option maxRecDepth 20000 in
theorem ms_X0_38 : MS RX0 38 yJ9_min_7cf53 := ⟨TB_of 623 rfl rfl, TB_of 461 rfl rfl⟩
set_option maxRecDepth 20000 in
theorem mv_L_103 : MV RL 103 yX7_runs := ⟨TB_of 624 rfl rfl, TB_of 625 rfl rfl, TB_of 626 rfl rfl⟩
set_option maxRecDepth 20000 in
theorem mv_L_107 : MV RL 107 yX7_told := ⟨TB_of 628 rfl rfl, TB_of 629 rfl rfl, TB_of 630 rfl rfl⟩
set_option maxRecDepth 20000 in
theorem mv_L_121 : MV RL 121 yX7_brought := ⟨TB_of 632 rfl rfl, TB_of 633 rfl rfl, TB_of 634 rfl rfl⟩
set_option maxRecDepth 20000 in
theorem mv_X7_226 : MV RX7 226 yX7_isTrain := ⟨TB_of 636 rfl rfl, TB_of 638 rfl rfl, TB_of 24 rfl rfl⟩
set_option maxRecDepth 20000 in
theorem mv_L_125 : MV RL 125 yX7_count := ⟨TB_of 640 rfl rfl, TB_of 641 rfl rfl, TB_of 642 rfl rfl⟩
set_option maxRecDepth 20000 in
theorem mv_X7_241 : MV RX7 241 yX7_trainsOut := ⟨TB_of 644 rfl rfl, TB_of 646 rfl rfl, TB_of 25 rfl rfl⟩
set_option maxRecDepth 20000 in
theorem ms_X7_244 : MS RX7 244 yJ6_bitCount_0f7a4 := ⟨TB_of 648 rfl rfl, TB_of 393 rfl rfl⟩
set_option maxRecDepth 20000 in
theorem ms_L_112 : MS RL 112 yL_was := ⟨TB_of 649 rfl rfl, TB_of 650 rfl rfl⟩
set_option maxRecDepth 20000 in
theorem mv_L_7 : MV RL 7 yX7_was := ⟨TB_of 653 rfl rfl, TB_of 654 rfl rfl, TB_of 655 rfl rfl⟩
set_option maxRecDepth 20000 in
theorem mi_L_18 : MI RL 18 yX8_init := ⟨TB_of 726 rfl rfl, TB_of 727 rfl rfl, rfl⟩
set_option maxRecDepth 20000 in
theorem mv_L_118 : MV RL 118 yX8_thrown := ⟨TB_of 831 rfl rfl, TB_of 832 rfl rfl, TB_of 833 rfl rfl⟩
set_option maxRecDepth 20000 in
theorem mv_L_23 : MV RL 23 yX8_part := ⟨TB_of 835 rfl rfl, TB_of 836 rfl rfl, TB_of 837 rfl rfl⟩
set_option maxRecDepth 20000 in
theorem ms_X8_82 : MS RX8 82 yX8_isIn := ⟨TB_of 839 rfl rfl, TB_of 840 rfl rfl⟩
set_option maxRecDepth 20000 in
theorem mv_L_28 : MV RL 28 yX8_offer := ⟨TB_of 842 rfl rfl, TB_of 843 rfl rfl, TB_of 844 rfl rfl⟩
set_option maxRecDepth 20000 in
theorem mv_X8_86 : MV RX8 86 yX8_isPart := ⟨TB_of 846 rfl rfl, TB_of 848 rfl rfl, TB_of 27 rfl rfl⟩
set_option maxRecDepth 20000 in
theorem ms_X8_93 : MS RX8 93 yX8_isOf := ⟨TB_of 850 rfl rfl, TB_of 851 rfl rfl⟩
set_option maxRecDepth 20000 in
theorem mv_L_33 : MV RL 33 yX8_withdraw := ⟨TB_of 853 rfl rfl, TB_of 854 rfl rfl, TB_of 855 rfl rfl⟩
set_option maxRecDepth 20000 in
theorem mv_L_38 : MV RL 38 yX8_need := ⟨TB_of 857 rfl rfl, TB_of 858 rfl rfl, TB_of 859 rfl rfl⟩
set_option maxRecDepth 20000 in
theorem mv_L_42 : MV RL 42 yX8_test := ⟨TB_of 861 rfl rfl, TB_of 862 rfl rfl, TB_of 863 rfl rfl⟩
set_option maxRecDepth 20000 in
theorem mv_X8_103 : MV RX8 103 yX8_isSet := ⟨TB_of 865 rfl rfl, TB_of 867 rfl rfl, TB_of 28 rfl rfl⟩
set_option maxRecDepth 20000 in
theorem mv_L_46 : MV RL 46 yX8_fits := ⟨TB_of 869 rfl rfl, TB_of 870 rfl rfl, TB_of 871 rfl rfl⟩
set_option maxRecDepth 20000 in
theorem mv_X8_110 : MV RX8 110 yX8_offered := ⟨TB_of 873 rfl rfl, TB_of 875 rfl rfl, TB_of 29 rfl rfl⟩
set_option maxRecDepth 20000 in
theorem mv_X8_114 : MV RX8 114 yX8_broken := ⟨TB_of 877 rfl rfl, TB_of 879 rfl rfl, TB_of 30 rfl rfl⟩
set_option maxRecDepth 20000 in
theorem mv_X8_106 : MV RX8 106 yX8_version := ⟨TB_of 881 rfl rfl, TB_of 883 rfl rfl, TB_of 31 rfl rfl⟩
set_option maxRecDepth 20000 in
theorem mv_L_50 : MV RL 50 yX8_red := ⟨TB_of 885 rfl rfl, TB_of 886 rfl rfl, TB_of 887 rfl rfl⟩
set_option maxRecDepth 20000 in
theorem mv_X8_118 : MV RX8 118 yX8_redOf := ⟨TB_of 889 rfl rfl, TB_of 891 rfl rfl, TB_of 32 rfl rfl⟩
set_option maxRecDepth 20000 in
theorem mv_L_55 : MV RL 55 yX8_cut := ⟨TB_of 893 rfl rfl, TB_of 894 rfl rfl, TB_of 895 rfl rfl⟩
set_option maxRecDepth 20000 in
theorem mv_X8_127 : MV RX8 127 yX8_best := ⟨TB_of 897 rfl rfl, TB_of 899 rfl rfl, TB_of 33 rfl rfl⟩
set_option maxRecDepth 20000 in
theorem mv_X8_121 : MV RX8 121 yX8_goes := ⟨TB_of 901 rfl rfl, TB_of 903 rfl rfl, TB_of 34 rfl rfl⟩
set_option maxRecDepth 20000 in
theorem mv_X8_124 : MV RX8 124 yX8_worthOf := ⟨TB_of 905 rfl rfl, TB_of 907 rfl rfl, TB_of 35 rfl rfl⟩
set_option maxRecDepth 20000 in
theorem mv_L_59 : MV RL 59 yX8_chosen := ⟨TB_of 909 rfl rfl, TB_of 910 rfl rfl, TB_of 911 rfl rfl⟩
set_option maxRecDepth 20000 in
theorem mv_L_63 : MV RL 63 yX8_worth := ⟨TB_of 913 rfl rfl, TB_of 914 rfl rfl, TB_of 915 rfl rfl⟩
set_option maxRecDepth 20000 in
theorem mv_L_67 : MV RL 67 yX8_why := ⟨TB_of 917 rfl rfl, TB_of 918 rfl rfl, TB_of 919 rfl rfl⟩
set_option maxRecDepth 20000 in
theorem mv_L_72 : MV RL 72 yX8_fix := ⟨TB_of 921 rfl rfl, TB_of 922 rfl rfl, TB_of 923 rfl rfl⟩
set_option maxRecDepth 20000 in
theorem mv_X8_136 : MV RX8 136 yX8_tries := ⟨TB_of 925 rfl rfl, TB_of 927 rfl rfl, TB_of 36 rfl rfl⟩
set_option maxRecDepth 20000 in
theorem mv_L_76 : MV RL 76 yX8_leave := ⟨TB_of 929 rfl rfl, TB_of 930 rfl rfl, TB_of 931 rfl rfl⟩
set_option maxRecDepth 20000 in
theorem mv_L_80 : MV RL 80 yX8_order := ⟨TB_of 933 rfl rfl, TB_of 934 rfl rfl, TB_of 935 rfl rfl⟩
set_option maxRecDepth 20000 in
theorem mv_X8_145 : MV RX8 145 yX8_orders := ⟨TB_of 937 rfl rfl, TB_of 939 rfl rfl, TB_of 37 rfl rfl⟩
set_option maxRecDepth 20000 in
theorem mv_X8_142 : MV RX8 142 yX8_goesOut := ⟨TB_of 941 rfl rfl, TB_of 943 rfl rfl, TB_of 38 rfl rfl⟩
set_option maxRecDepth 20000 in
theorem mv_L_84 : MV RL 84 yX8_send := ⟨TB_of 945 rfl rfl, TB_of 946 rfl rfl, TB_of 947 rfl rfl⟩
set_option maxRecDepth 20000 in
theorem mv_X8_152 : MV RX8 152 yX8_next := ⟨TB_of 949 rfl rfl, TB_of 951 rfl rfl, TB_of 39 rfl rfl⟩
set_option maxRecDepth 20000 in
theorem mv_L_89 : MV RL 89 yX8_giveUp := ⟨TB_of 953 rfl rfl, TB_of 954 rfl rfl, TB_of 955 rfl rfl⟩
set_option maxRecDepth 20000 in
theorem mv_L_94 : MV RL 94 yX8_oneWay := ⟨TB_of 957 rfl rfl, TB_of 958 rfl rfl, TB_of 959 rfl rfl⟩
set_option maxRecDepth 20000 in
theorem mv_X8_158 : MV RX8 158 yX8_way := ⟨TB_of 961 rfl rfl, TB_of 963 rfl rfl, TB_of 40 rfl rfl⟩
set_option maxRecDepth 20000 in
theorem mv_L_98 : MV RL 98 yX8_back := ⟨TB_of 965 rfl rfl, TB_of 966 rfl rfl, TB_of 967 rfl rfl⟩
set_option maxRecDepth 20000 in
theorem mv_L_102 : MV RL 102 yX8_blame := ⟨TB_of 971 rfl rfl, TB_of 972 rfl rfl, TB_of 973 rfl rfl⟩
set_option maxRecDepth 20000 in
theorem mv_X8_192 : MV RX8 192 yX8_blames := ⟨TB_of 975 rfl rfl, TB_of 977 rfl rfl, TB_of 41 rfl rfl⟩
set_option maxRecDepth 20000 in
theorem mv_X8_182 : MV RX8 182 yX8_isRed := ⟨TB_of 979 rfl rfl, TB_of 981 rfl rfl, TB_of 42 rfl rfl⟩
set_option maxRecDepth 20000 in
theorem ms_X8_169 : MS RX8 169 yJ6_bitCount_0f7a4 := ⟨TB_of 983 rfl rfl, TB_of 393 rfl rfl⟩
set_option maxRecDepth 20000 in
theorem mv_X8_185 : MV RX8 185 yX8_piece := ⟨TB_of 984 rfl rfl, TB_of 986 rfl rfl, TB_of 43 rfl rfl⟩
set_option maxRecDepth 20000 in
theorem ms_X8_174 : MS RX8 174 yJ9_min_7cf53 := ⟨TB_of 988 rfl rfl, TB_of 461 rfl rfl⟩
set_option maxRecDepth 20000 in
theorem ms_X8_189 : MS RX8 189 yJ9_max_7cf53 := ⟨TB_of 989 rfl rfl, TB_of 509 rfl rfl⟩
set_option maxRecDepth 20000 in
theorem mv_L_106 : MV RL 106 yX8_runs := ⟨TB_of 990 rfl rfl, TB_of 991 rfl rfl, TB_of 992 rfl rfl⟩
set_option maxRecDepth 20000 in
theorem mv_L_111 : MV RL 111 yX8_told := ⟨TB_of 994 rfl rfl, TB_of 995 rfl rfl, TB_of 996 rfl rfl⟩
set_option maxRecDepth 20000 in
theorem mv_L_117 : MV RL 117 yX8_was := ⟨TB_of 998 rfl rfl, TB_of 999 rfl rfl, TB_of 1000 rfl rfl⟩
set_option maxRecDepth 20000 in
theorem mv_L_124 : MV RL 124 yX8_brought := ⟨TB_of 1002 rfl rfl, TB_of 1003 rfl rfl, TB_of 1004 rfl rfl⟩
set_option maxRecDepth 20000 in
theorem mv_L_128 : MV RL 128 yX8_count := ⟨TB_of 1006 rfl rfl, TB_of 1007 rfl rfl, TB_of 1008 rfl rfl⟩
set_option maxRecDepth 20000 in
theorem fl_X2_9 : FL RX2 9 2 0 := ⟨RX2, TX2, 2, rfl, by decide, ui_X2, TB_of 85 rfl rfl⟩
set_option maxRecDepth 20000 in
theorem fp_X2_9 : FP RX2 9 2 0 (.array .int) true := ⟨RX2, TX2, 2, tyX2, rfl, by decide, ui_X2, TB_of 85 rfl rfl, tyX2_ok, nmX2, rfl, by decide +kernel, fun _ => rfl⟩
set_option maxRecDepth 20000 in
theorem fl_X2_15 : FL RX2 15 2 1 := ⟨RX2, TX2, 2, rfl, by decide, ui_X2, TB_of 86 rfl rfl⟩
set_option maxRecDepth 20000 in
theorem fp_X2_15 : FP RX2 15 2 1 (.array .int) true := ⟨RX2, TX2, 2, tyX2, rfl, by decide, ui_X2, TB_of 86 rfl rfl, tyX2_ok, nmX2, rfl, by decide +kernel, fun _ => rfl⟩
set_option maxRecDepth 20000 in
theorem fl_X1_9 : FL RX1 9 1 0 := ⟨RX1, TX1, 8, rfl, by decide, ui_X1, TB_of 99 rfl rfl⟩
set_option maxRecDepth 20000 in
theorem fp_X1_9 : FP RX1 9 1 0 (.array .int) true := ⟨RX1, TX1, 8, tyX1, rfl, by decide, ui_X1, TB_of 99 rfl rfl, tyX1_ok, nmX1, rfl, by decide +kernel, fun _ => rfl⟩
set_option maxRecDepth 20000 in
theorem fl_X1_15 : FL RX1 15 1 1 := ⟨RX1, TX1, 8, rfl, by decide, ui_X1, TB_of 100 rfl rfl⟩
set_option maxRecDepth 20000 in
theorem fp_X1_15 : FP RX1 15 1 1 (.array .int) true := ⟨RX1, TX1, 8, tyX1, rfl, by decide, ui_X1, TB_of 100 rfl rfl, tyX1_ok, nmX1, rfl, by decide +kernel, fun _ => rfl⟩
set_option maxRecDepth 20000 in
theorem fl_X1_18 : FL RX1 18 1 2 := ⟨RX1, TX1, 8, rfl, by decide, ui_X1, TB_of 101 rfl rfl⟩
set_option maxRecDepth 20000 in
theorem fp_X1_18 : FP RX1 18 1 2 (.array .int) true := ⟨RX1, TX1, 8, tyX1, rfl, by decide, ui_X1, TB_of 101 rfl rfl, tyX1_ok, nmX1, rfl, by decide +kernel, fun _ => rfl⟩
set_option maxRecDepth 20000 in
theorem fl_X1_21 : FL RX1 21 1 3 := ⟨RX1, TX1, 8, rfl, by decide, ui_X1, TB_of 102 rfl rfl⟩
set_option maxRecDepth 20000 in
theorem fp_X1_21 : FP RX1 21 1 3 (.array .int) true := ⟨RX1, TX1, 8, tyX1, rfl, by decide, ui_X1, TB_of 102 rfl rfl, tyX1_ok, nmX1, rfl, by decide +kernel, fun _ => rfl⟩
set_option maxRecDepth 20000 in
theorem fl_X1_24 : FL RX1 24 1 4 := ⟨RX1, TX1, 8, rfl, by decide, ui_X1, TB_of 103 rfl rfl⟩
set_option maxRecDepth 20000 in
theorem fp_X1_24 : FP RX1 24 1 4 (.array .int) true := ⟨RX1, TX1, 8, tyX1, rfl, by decide, ui_X1, TB_of 103 rfl rfl, tyX1_ok, nmX1, rfl, by decide +kernel, fun _ => rfl⟩
set_option maxRecDepth 20000 in
theorem fl_X1_27 : FL RX1 27 1 5 := ⟨RX1, TX1, 8, rfl, by decide, ui_X1, TB_of 104 rfl rfl⟩
set_option maxRecDepth 20000 in
theorem fp_X1_27 : FP RX1 27 1 5 (.array .int) true := ⟨RX1, TX1, 8, tyX1, rfl, by decide, ui_X1, TB_of 104 rfl rfl, tyX1_ok, nmX1, rfl, by decide +kernel, fun _ => rfl⟩
set_option maxRecDepth 20000 in
theorem fl_X1_30 : FL RX1 30 1 6 := ⟨RX1, TX1, 8, rfl, by decide, ui_X1, TB_of 105 rfl rfl⟩
set_option maxRecDepth 20000 in
theorem fp_X1_30 : FP RX1 30 1 6 (.array .int) true := ⟨RX1, TX1, 8, tyX1, rfl, by decide, ui_X1, TB_of 105 rfl rfl, tyX1_ok, nmX1, rfl, by decide +kernel, fun _ => rfl⟩
set_option maxRecDepth 20000 in
theorem fl_X1_33 : FL RX1 33 1 7 := ⟨RX1, TX1, 8, rfl, by decide, ui_X1, TB_of 106 rfl rfl⟩
set_option maxRecDepth 20000 in
theorem fp_X1_33 : FP RX1 33 1 7 (.int) false := ⟨RX1, TX1, 8, tyX1, rfl, by decide, ui_X1, TB_of 106 rfl rfl, tyX1_ok, nmX1, rfl, by decide +kernel, fun _ => rfl⟩
set_option maxRecDepth 20000 in
theorem fl_X5_9 : FL RX5 9 5 0 := ⟨RX5, TX5, 2, rfl, by decide, ui_X5, TB_of 131 rfl rfl⟩
set_option maxRecDepth 20000 in
theorem fp_X5_9 : FP RX5 9 5 0 (.array .int) true := ⟨RX5, TX5, 2, tyX5, rfl, by decide, ui_X5, TB_of 131 rfl rfl, tyX5_ok, nmX5, rfl, by decide +kernel, fun _ => rfl⟩
set_option maxRecDepth 20000 in
theorem fl_X5_15 : FL RX5 15 5 1 := ⟨RX5, TX5, 2, rfl, by decide, ui_X5, TB_of 132 rfl rfl⟩
set_option maxRecDepth 20000 in
theorem fp_X5_15 : FP RX5 15 5 1 (.int) false := ⟨RX5, TX5, 2, tyX5, rfl, by decide, ui_X5, TB_of 132 rfl rfl, tyX5_ok, nmX5, rfl, by decide +kernel, fun _ => rfl⟩
set_option maxRecDepth 20000 in
theorem fl_X4_9 : FL RX4 9 4 0 := ⟨RX4, TX4, 2, rfl, by decide, ui_X4, TB_of 145 rfl rfl⟩
set_option maxRecDepth 20000 in
theorem fp_X4_9 : FP RX4 9 4 0 (.array .int) true := ⟨RX4, TX4, 2, tyX4, rfl, by decide, ui_X4, TB_of 145 rfl rfl, tyX4_ok, nmX4, rfl, by decide +kernel, fun _ => rfl⟩
set_option maxRecDepth 20000 in
theorem fl_X4_15 : FL RX4 15 4 1 := ⟨RX4, TX4, 2, rfl, by decide, ui_X4, TB_of 146 rfl rfl⟩
set_option maxRecDepth 20000 in
theorem fp_X4_15 : FP RX4 15 4 1 (.int) false := ⟨RX4, TX4, 2, tyX4, rfl, by decide, ui_X4, TB_of 146 rfl rfl, tyX4_ok, nmX4, rfl, by decide +kernel, fun _ => rfl⟩
set_option maxRecDepth 20000 in
theorem fl_X0_19 : FL RX0 19 0 0 := ⟨RX0, TX0, 2, rfl, by decide, ui_X0, TB_of 158 rfl rfl⟩
set_option maxRecDepth 20000 in
theorem fp_X0_19 : FP RX0 19 0 0 (.int) false := ⟨RX0, TX0, 2, tyX0, rfl, by decide, ui_X0, TB_of 158 rfl rfl, tyX0_ok, nmX0, rfl, by decide +kernel, fun _ => rfl⟩
set_option maxRecDepth 20000 in
theorem fl_X0_9 : FL RX0 9 0 1 := ⟨RX0, TX0, 2, rfl, by decide, ui_X0, TB_of 160 rfl rfl⟩
set_option maxRecDepth 20000 in
theorem fp_X0_9 : FP RX0 9 0 1 (.int) false := ⟨RX0, TX0, 2, tyX0, rfl, by decide, ui_X0, TB_of 160 rfl rfl, tyX0_ok, nmX0, rfl, by decide +kernel, fun _ => rfl⟩
set_option maxRecDepth 20000 in
theorem fl_X3_9 : FL RX3 9 3 0 := ⟨RX3, TX3, 3, rfl, by decide, ui_X3, TB_of 173 rfl rfl⟩
set_option maxRecDepth 20000 in
theorem fp_X3_9 : FP RX3 9 3 0 (.array .int) true := ⟨RX3, TX3, 3, tyX3, rfl, by decide, ui_X3, TB_of 173 rfl rfl, tyX3_ok, nmX3, rfl, by decide +kernel, fun _ => rfl⟩
set_option maxRecDepth 20000 in
theorem fl_X3_15 : FL RX3 15 3 1 := ⟨RX3, TX3, 3, rfl, by decide, ui_X3, TB_of 174 rfl rfl⟩
set_option maxRecDepth 20000 in
theorem fp_X3_15 : FP RX3 15 3 1 (.array .int) true := ⟨RX3, TX3, 3, tyX3, rfl, by decide, ui_X3, TB_of 174 rfl rfl, tyX3_ok, nmX3, rfl, by decide +kernel, fun _ => rfl⟩
set_option maxRecDepth 20000 in
theorem fl_X3_18 : FL RX3 18 3 2 := ⟨RX3, TX3, 3, rfl, by decide, ui_X3, TB_of 175 rfl rfl⟩
set_option maxRecDepth 20000 in
theorem fp_X3_18 : FP RX3 18 3 2 (.int) false := ⟨RX3, TX3, 3, tyX3, rfl, by decide, ui_X3, TB_of 175 rfl rfl, tyX3_ok, nmX3, rfl, by decide +kernel, fun _ => rfl⟩
set_option maxRecDepth 20000 in
theorem fl_Jx4a65c_9 : FL RJx4a65c 9 9 1 := ⟨RJx4a65c, TJx4a65c, 3, rfl, by decide, ui_Jx4a65c, TB_of 198 rfl rfl⟩
set_option maxRecDepth 20000 in
theorem fp_Jx4a65c_9 : FP RJx4a65c 9 9 1 (.array (.object "java/lang/Object")) false := ⟨RJx4a65c, TJx4a65c, 3, tyJx4a65c, rfl, by decide, ui_Jx4a65c, TB_of 198 rfl rfl, tyJx4a65c_ok, nmJx4a65c, rfl, by decide +kernel, fun _ => rfl⟩
set_option maxRecDepth 20000 in
theorem fl_Jx4a65c_48 : FL RJx4a65c 48 9 2 := ⟨RJx4a65c, TJx4a65c, 3, rfl, by decide, ui_Jx4a65c, TB_of 199 rfl rfl⟩
set_option maxRecDepth 20000 in
theorem fp_Jx4a65c_48 : FP RJx4a65c 48 9 2 (.int) false := ⟨RJx4a65c, TJx4a65c, 3, tyJx4a65c, rfl, by decide, ui_Jx4a65c, TB_of 199 rfl rfl, tyJx4a65c_ok, nmJx4a65c, rfl, by decide +kernel, fun _ => rfl⟩
set_option maxRecDepth 20000 in
theorem fl_Jxc12de_7 : FL RJxc12de 7 9 0 := ⟨RJx4a65c, TJx4a65c, 3, rfl, by decide, ui_Jx4a65c, TB_of 200 rfl rfl⟩
set_option maxRecDepth 20000 in
theorem fp_Jxc12de_7 : FP RJxc12de 7 9 0 (.int) false := ⟨RJx4a65c, TJx4a65c, 3, tyJx4a65c, rfl, by decide, ui_Jx4a65c, TB_of 200 rfl rfl, tyJx4a65c_ok, nmJx4a65c, rfl, by decide +kernel, fun _ => rfl⟩
set_option maxRecDepth 20000 in
theorem fl_X7_9 : FL RX7 9 7 0 := ⟨RX7, TX7, 11, rfl, by decide, ui_X7, TB_of 210 rfl rfl⟩
set_option maxRecDepth 20000 in
theorem fp_X7_9 : FP RX7 9 7 0 (.array .int) true := ⟨RX7, TX7, 11, tyX7, rfl, by decide, ui_X7, TB_of 210 rfl rfl, tyX7_ok, nmX7, rfl, by decide +kernel, fun _ => rfl⟩
set_option maxRecDepth 20000 in
theorem fl_X7_16 : FL RX7 16 7 1 := ⟨RX7, TX7, 11, rfl, by decide, ui_X7, TB_of 211 rfl rfl⟩
set_option maxRecDepth 20000 in
theorem fp_X7_16 : FP RX7 16 7 1 (.object "TrainDesk$Offers") true := ⟨RX7, TX7, 11, tyX7, rfl, by decide, ui_X7, TB_of 211 rfl rfl, tyX7_ok, nmX7, rfl, by decide +kernel, fun _ => rfl⟩
set_option maxRecDepth 20000 in
theorem fl_X7_20 : FL RX7 20 7 2 := ⟨RX7, TX7, 11, rfl, by decide, ui_X7, TB_of 212 rfl rfl⟩
set_option maxRecDepth 20000 in
theorem fp_X7_20 : FP RX7 20 7 2 (.object "TrainDesk$Offers") true := ⟨RX7, TX7, 11, tyX7, rfl, by decide, ui_X7, TB_of 212 rfl rfl, tyX7_ok, nmX7, rfl, by decide +kernel, fun _ => rfl⟩
set_option maxRecDepth 20000 in
theorem fl_X7_26 : FL RX7 26 7 3 := ⟨RX7, TX7, 11, rfl, by decide, ui_X7, TB_of 213 rfl rfl⟩
set_option maxRecDepth 20000 in
theorem fp_X7_26 : FP RX7 26 7 3 (.object "TrainDesk$Needs") true := ⟨RX7, TX7, 11, tyX7, rfl, by decide, ui_X7, TB_of 213 rfl rfl, tyX7_ok, nmX7, rfl, by decide +kernel, fun _ => rfl⟩
set_option maxRecDepth 20000 in
theorem fl_X7_33 : FL RX7 33 7 4 := ⟨RX7, TX7, 11, rfl, by decide, ui_X7, TB_of 214 rfl rfl⟩
set_option maxRecDepth 20000 in
theorem fp_X7_33 : FP RX7 33 7 4 (.object "TrainDesk$Tests") true := ⟨RX7, TX7, 11, tyX7, rfl, by decide, ui_X7, TB_of 214 rfl rfl, tyX7_ok, nmX7, rfl, by decide +kernel, fun _ => rfl⟩
set_option maxRecDepth 20000 in
theorem fl_X7_40 : FL RX7 40 7 5 := ⟨RX7, TX7, 11, rfl, by decide, ui_X7, TB_of 215 rfl rfl⟩
set_option maxRecDepth 20000 in
theorem fp_X7_40 : FP RX7 40 7 5 (.object "TrainDesk$Route") true := ⟨RX7, TX7, 11, tyX7, rfl, by decide, ui_X7, TB_of 215 rfl rfl, tyX7_ok, nmX7, rfl, by decide +kernel, fun _ => rfl⟩
set_option maxRecDepth 20000 in
theorem fl_X7_47 : FL RX7 47 7 6 := ⟨RX7, TX7, 11, rfl, by decide, ui_X7, TB_of 216 rfl rfl⟩
set_option maxRecDepth 20000 in
theorem fp_X7_47 : FP RX7 47 7 6 (.object "TrainDesk$Hunt") true := ⟨RX7, TX7, 11, tyX7, rfl, by decide, ui_X7, TB_of 216 rfl rfl, tyX7_ok, nmX7, rfl, by decide +kernel, fun _ => rfl⟩
set_option maxRecDepth 20000 in
theorem fl_X7_54 : FL RX7 54 7 7 := ⟨RX7, TX7, 11, rfl, by decide, ui_X7, TB_of 217 rfl rfl⟩
set_option maxRecDepth 20000 in
theorem fp_X7_54 : FP RX7 54 7 7 (.object "TrainDesk$OneWays") true := ⟨RX7, TX7, 11, tyX7, rfl, by decide, ui_X7, TB_of 217 rfl rfl, tyX7_ok, nmX7, rfl, by decide +kernel, fun _ => rfl⟩
set_option maxRecDepth 20000 in
theorem fl_X7_61 : FL RX7 61 7 8 := ⟨RX7, TX7, 11, rfl, by decide, ui_X7, TB_of 218 rfl rfl⟩
set_option maxRecDepth 20000 in
theorem fp_X7_61 : FP RX7 61 7 8 (.object "java/util/ArrayList") true := ⟨RX7, TX7, 11, tyX7, rfl, by decide, ui_X7, TB_of 218 rfl rfl, tyX7_ok, nmX7, rfl, by decide +kernel, fun _ => rfl⟩
set_option maxRecDepth 20000 in
theorem fl_X7_65 : FL RX7 65 7 9 := ⟨RX7, TX7, 11, rfl, by decide, ui_X7, TB_of 219 rfl rfl⟩
set_option maxRecDepth 20000 in
theorem fp_X7_65 : FP RX7 65 7 9 (.int) false := ⟨RX7, TX7, 11, tyX7, rfl, by decide, ui_X7, TB_of 219 rfl rfl, tyX7_ok, nmX7, rfl, by decide +kernel, fun _ => rfl⟩
set_option maxRecDepth 20000 in
theorem fl_X7_69 : FL RX7 69 7 10 := ⟨RX7, TX7, 11, rfl, by decide, ui_X7, TB_of 220 rfl rfl⟩
set_option maxRecDepth 20000 in
theorem fp_X7_69 : FP RX7 69 7 10 (.int) false := ⟨RX7, TX7, 11, tyX7, rfl, by decide, ui_X7, TB_of 220 rfl rfl, tyX7_ok, nmX7, rfl, by decide +kernel, fun _ => rfl⟩
set_option maxRecDepth 20000 in
theorem fl_X6_7 : FL RX6 7 6 0 := ⟨RX6, TX6, 4, rfl, by decide, ui_X6, TB_of 472 rfl rfl⟩
set_option maxRecDepth 20000 in
theorem fp_X6_7 : FP RX6 7 6 0 (.array .int) true := ⟨RX6, TX6, 4, tyX6, rfl, by decide, ui_X6, TB_of 472 rfl rfl, tyX6_ok, nmX6, rfl, by decide +kernel, fun _ => rfl⟩
set_option maxRecDepth 20000 in
theorem fl_X6_13 : FL RX6 13 6 1 := ⟨RX6, TX6, 4, rfl, by decide, ui_X6, TB_of 474 rfl rfl⟩
set_option maxRecDepth 20000 in
theorem fp_X6_13 : FP RX6 13 6 1 (.array .int) true := ⟨RX6, TX6, 4, tyX6, rfl, by decide, ui_X6, TB_of 474 rfl rfl, tyX6_ok, nmX6, rfl, by decide +kernel, fun _ => rfl⟩
set_option maxRecDepth 20000 in
theorem fl_X6_16 : FL RX6 16 6 2 := ⟨RX6, TX6, 4, rfl, by decide, ui_X6, TB_of 476 rfl rfl⟩
set_option maxRecDepth 20000 in
theorem fp_X6_16 : FP RX6 16 6 2 (.int) true := ⟨RX6, TX6, 4, tyX6, rfl, by decide, ui_X6, TB_of 476 rfl rfl, tyX6_ok, nmX6, rfl, by decide +kernel, fun _ => rfl⟩
set_option maxRecDepth 20000 in
theorem fl_X6_20 : FL RX6 20 6 3 := ⟨RX6, TX6, 4, rfl, by decide, ui_X6, TB_of 478 rfl rfl⟩
set_option maxRecDepth 20000 in
theorem fp_X6_20 : FP RX6 20 6 3 (.boolean) false := ⟨RX6, TX6, 4, tyX6, rfl, by decide, ui_X6, TB_of 478 rfl rfl, tyX6_ok, nmX6, rfl, by decide +kernel, fun _ => rfl⟩
set_option maxRecDepth 20000 in
theorem fl_X8_71 : FL RX8 71 8 0 := ⟨RX8, TX8, 33, rfl, by decide, ui_X8, TB_of 730 rfl rfl⟩
set_option maxRecDepth 20000 in
theorem fp_X8_71 : FP RX8 71 8 0 (.int) false := ⟨RX8, TX8, 33, tyX8, rfl, by decide, ui_X8, TB_of 730 rfl rfl, tyX8_ok, nmX8, rfl, by decide +kernel, fun _ => rfl⟩
set_option maxRecDepth 20000 in
theorem fl_X8_9 : FL RX8 9 8 1 := ⟨RX8, TX8, 33, rfl, by decide, ui_X8, TB_of 731 rfl rfl⟩
set_option maxRecDepth 20000 in
theorem fp_X8_9 : FP RX8 9 8 1 (.array .int) true := ⟨RX8, TX8, 33, tyX8, rfl, by decide, ui_X8, TB_of 731 rfl rfl, tyX8_ok, nmX8, rfl, by decide +kernel, fun _ => rfl⟩
set_option maxRecDepth 20000 in
theorem fl_X8_13 : FL RX8 13 8 2 := ⟨RX8, TX8, 33, rfl, by decide, ui_X8, TB_of 732 rfl rfl⟩
set_option maxRecDepth 20000 in
theorem fp_X8_13 : FP RX8 13 8 2 (.array .int) true := ⟨RX8, TX8, 33, tyX8, rfl, by decide, ui_X8, TB_of 732 rfl rfl, tyX8_ok, nmX8, rfl, by decide +kernel, fun _ => rfl⟩
set_option maxRecDepth 20000 in
theorem fl_X8_16 : FL RX8 16 8 3 := ⟨RX8, TX8, 33, rfl, by decide, ui_X8, TB_of 733 rfl rfl⟩
set_option maxRecDepth 20000 in
theorem fp_X8_16 : FP RX8 16 8 3 (.array .int) true := ⟨RX8, TX8, 33, tyX8, rfl, by decide, ui_X8, TB_of 733 rfl rfl, tyX8_ok, nmX8, rfl, by decide +kernel, fun _ => rfl⟩
set_option maxRecDepth 20000 in
theorem fl_X8_19 : FL RX8 19 8 4 := ⟨RX8, TX8, 33, rfl, by decide, ui_X8, TB_of 734 rfl rfl⟩
set_option maxRecDepth 20000 in
theorem fp_X8_19 : FP RX8 19 8 4 (.array .int) true := ⟨RX8, TX8, 33, tyX8, rfl, by decide, ui_X8, TB_of 734 rfl rfl, tyX8_ok, nmX8, rfl, by decide +kernel, fun _ => rfl⟩
set_option maxRecDepth 20000 in
theorem fl_X8_22 : FL RX8 22 8 5 := ⟨RX8, TX8, 33, rfl, by decide, ui_X8, TB_of 735 rfl rfl⟩
set_option maxRecDepth 20000 in
theorem fp_X8_22 : FP RX8 22 8 5 (.array .int) true := ⟨RX8, TX8, 33, tyX8, rfl, by decide, ui_X8, TB_of 735 rfl rfl, tyX8_ok, nmX8, rfl, by decide +kernel, fun _ => rfl⟩
set_option maxRecDepth 20000 in
theorem fl_X8_25 : FL RX8 25 8 6 := ⟨RX8, TX8, 33, rfl, by decide, ui_X8, TB_of 736 rfl rfl⟩
set_option maxRecDepth 20000 in
theorem fp_X8_25 : FP RX8 25 8 6 (.array .int) true := ⟨RX8, TX8, 33, tyX8, rfl, by decide, ui_X8, TB_of 736 rfl rfl, tyX8_ok, nmX8, rfl, by decide +kernel, fun _ => rfl⟩
set_option maxRecDepth 20000 in
theorem fl_X8_28 : FL RX8 28 8 7 := ⟨RX8, TX8, 33, rfl, by decide, ui_X8, TB_of 737 rfl rfl⟩
set_option maxRecDepth 20000 in
theorem fp_X8_28 : FP RX8 28 8 7 (.array .int) true := ⟨RX8, TX8, 33, tyX8, rfl, by decide, ui_X8, TB_of 737 rfl rfl, tyX8_ok, nmX8, rfl, by decide +kernel, fun _ => rfl⟩
set_option maxRecDepth 20000 in
theorem fl_X8_31 : FL RX8 31 8 8 := ⟨RX8, TX8, 33, rfl, by decide, ui_X8, TB_of 738 rfl rfl⟩
set_option maxRecDepth 20000 in
theorem fp_X8_31 : FP RX8 31 8 8 (.array .int) true := ⟨RX8, TX8, 33, tyX8, rfl, by decide, ui_X8, TB_of 738 rfl rfl, tyX8_ok, nmX8, rfl, by decide +kernel, fun _ => rfl⟩
set_option maxRecDepth 20000 in
theorem fl_X8_34 : FL RX8 34 8 9 := ⟨RX8, TX8, 33, rfl, by decide, ui_X8, TB_of 739 rfl rfl⟩
set_option maxRecDepth 20000 in
theorem fp_X8_34 : FP RX8 34 8 9 (.array .int) true := ⟨RX8, TX8, 33, tyX8, rfl, by decide, ui_X8, TB_of 739 rfl rfl, tyX8_ok, nmX8, rfl, by decide +kernel, fun _ => rfl⟩
set_option maxRecDepth 20000 in
theorem fl_X8_37 : FL RX8 37 8 10 := ⟨RX8, TX8, 33, rfl, by decide, ui_X8, TB_of 740 rfl rfl⟩
set_option maxRecDepth 20000 in
theorem fp_X8_37 : FP RX8 37 8 10 (.array .int) true := ⟨RX8, TX8, 33, tyX8, rfl, by decide, ui_X8, TB_of 740 rfl rfl, tyX8_ok, nmX8, rfl, by decide +kernel, fun _ => rfl⟩
set_option maxRecDepth 20000 in
theorem fl_X8_40 : FL RX8 40 8 11 := ⟨RX8, TX8, 33, rfl, by decide, ui_X8, TB_of 741 rfl rfl⟩
set_option maxRecDepth 20000 in
theorem fp_X8_40 : FP RX8 40 8 11 (.array .int) true := ⟨RX8, TX8, 33, tyX8, rfl, by decide, ui_X8, TB_of 741 rfl rfl, tyX8_ok, nmX8, rfl, by decide +kernel, fun _ => rfl⟩
set_option maxRecDepth 20000 in
theorem fl_X8_43 : FL RX8 43 8 12 := ⟨RX8, TX8, 33, rfl, by decide, ui_X8, TB_of 742 rfl rfl⟩
set_option maxRecDepth 20000 in
theorem fp_X8_43 : FP RX8 43 8 12 (.array .int) true := ⟨RX8, TX8, 33, tyX8, rfl, by decide, ui_X8, TB_of 742 rfl rfl, tyX8_ok, nmX8, rfl, by decide +kernel, fun _ => rfl⟩
set_option maxRecDepth 20000 in
theorem fl_X8_46 : FL RX8 46 8 13 := ⟨RX8, TX8, 33, rfl, by decide, ui_X8, TB_of 743 rfl rfl⟩
set_option maxRecDepth 20000 in
theorem fp_X8_46 : FP RX8 46 8 13 (.array .int) true := ⟨RX8, TX8, 33, tyX8, rfl, by decide, ui_X8, TB_of 743 rfl rfl, tyX8_ok, nmX8, rfl, by decide +kernel, fun _ => rfl⟩
set_option maxRecDepth 20000 in
theorem fl_X8_49 : FL RX8 49 8 14 := ⟨RX8, TX8, 33, rfl, by decide, ui_X8, TB_of 744 rfl rfl⟩
set_option maxRecDepth 20000 in
theorem fp_X8_49 : FP RX8 49 8 14 (.array .int) true := ⟨RX8, TX8, 33, tyX8, rfl, by decide, ui_X8, TB_of 744 rfl rfl, tyX8_ok, nmX8, rfl, by decide +kernel, fun _ => rfl⟩
set_option maxRecDepth 20000 in
theorem fl_X8_52 : FL RX8 52 8 15 := ⟨RX8, TX8, 33, rfl, by decide, ui_X8, TB_of 745 rfl rfl⟩
set_option maxRecDepth 20000 in
theorem fp_X8_52 : FP RX8 52 8 15 (.array .int) true := ⟨RX8, TX8, 33, tyX8, rfl, by decide, ui_X8, TB_of 745 rfl rfl, tyX8_ok, nmX8, rfl, by decide +kernel, fun _ => rfl⟩
set_option maxRecDepth 20000 in
theorem fl_X8_55 : FL RX8 55 8 16 := ⟨RX8, TX8, 33, rfl, by decide, ui_X8, TB_of 746 rfl rfl⟩
set_option maxRecDepth 20000 in
theorem fp_X8_55 : FP RX8 55 8 16 (.array .int) true := ⟨RX8, TX8, 33, tyX8, rfl, by decide, ui_X8, TB_of 746 rfl rfl, tyX8_ok, nmX8, rfl, by decide +kernel, fun _ => rfl⟩
set_option maxRecDepth 20000 in
theorem fl_X8_58 : FL RX8 58 8 17 := ⟨RX8, TX8, 33, rfl, by decide, ui_X8, TB_of 747 rfl rfl⟩
set_option maxRecDepth 20000 in
theorem fp_X8_58 : FP RX8 58 8 17 (.array .int) true := ⟨RX8, TX8, 33, tyX8, rfl, by decide, ui_X8, TB_of 747 rfl rfl, tyX8_ok, nmX8, rfl, by decide +kernel, fun _ => rfl⟩
set_option maxRecDepth 20000 in
theorem fl_X8_61 : FL RX8 61 8 18 := ⟨RX8, TX8, 33, rfl, by decide, ui_X8, TB_of 748 rfl rfl⟩
set_option maxRecDepth 20000 in
theorem fp_X8_61 : FP RX8 61 8 18 (.array .boolean) true := ⟨RX8, TX8, 33, tyX8, rfl, by decide, ui_X8, TB_of 748 rfl rfl, tyX8_ok, nmX8, rfl, by decide +kernel, fun _ => rfl⟩
set_option maxRecDepth 20000 in
theorem fl_X8_75 : FL RX8 75 8 19 := ⟨RX8, TX8, 33, rfl, by decide, ui_X8, TB_of 749 rfl rfl⟩
set_option maxRecDepth 20000 in
theorem fp_X8_75 : FP RX8 75 8 19 (.int) false := ⟨RX8, TX8, 33, tyX8, rfl, by decide, ui_X8, TB_of 749 rfl rfl, tyX8_ok, nmX8, rfl, by decide +kernel, fun _ => rfl⟩
set_option maxRecDepth 20000 in
theorem fl_X8_97 : FL RX8 97 8 20 := ⟨RX8, TX8, 33, rfl, by decide, ui_X8, TB_of 750 rfl rfl⟩
set_option maxRecDepth 20000 in
theorem fp_X8_97 : FP RX8 97 8 20 (.int) false := ⟨RX8, TX8, 33, tyX8, rfl, by decide, ui_X8, TB_of 750 rfl rfl, tyX8_ok, nmX8, rfl, by decide +kernel, fun _ => rfl⟩
set_option maxRecDepth 20000 in
theorem fl_X8_100 : FL RX8 100 8 21 := ⟨RX8, TX8, 33, rfl, by decide, ui_X8, TB_of 751 rfl rfl⟩
set_option maxRecDepth 20000 in
theorem fp_X8_100 : FP RX8 100 8 21 (.int) false := ⟨RX8, TX8, 33, tyX8, rfl, by decide, ui_X8, TB_of 751 rfl rfl, tyX8_ok, nmX8, rfl, by decide +kernel, fun _ => rfl⟩
set_option maxRecDepth 20000 in
theorem fl_X8_155 : FL RX8 155 8 22 := ⟨RX8, TX8, 33, rfl, by decide, ui_X8, TB_of 752 rfl rfl⟩
set_option maxRecDepth 20000 in
theorem fp_X8_155 : FP RX8 155 8 22 (.int) false := ⟨RX8, TX8, 33, tyX8, rfl, by decide, ui_X8, TB_of 752 rfl rfl, tyX8_ok, nmX8, rfl, by decide +kernel, fun _ => rfl⟩
set_option maxRecDepth 20000 in
theorem fl_X8_149 : FL RX8 149 8 23 := ⟨RX8, TX8, 33, rfl, by decide, ui_X8, TB_of 753 rfl rfl⟩
set_option maxRecDepth 20000 in
theorem fp_X8_149 : FP RX8 149 8 23 (.int) false := ⟨RX8, TX8, 33, tyX8, rfl, by decide, ui_X8, TB_of 753 rfl rfl, tyX8_ok, nmX8, rfl, by decide +kernel, fun _ => rfl⟩
set_option maxRecDepth 20000 in
theorem fl_X8_90 : FL RX8 90 8 24 := ⟨RX8, TX8, 33, rfl, by decide, ui_X8, TB_of 754 rfl rfl⟩
set_option maxRecDepth 20000 in
theorem fp_X8_90 : FP RX8 90 8 24 (.int) false := ⟨RX8, TX8, 33, tyX8, rfl, by decide, ui_X8, TB_of 754 rfl rfl, tyX8_ok, nmX8, rfl, by decide +kernel, fun _ => rfl⟩
set_option maxRecDepth 20000 in
theorem fl_X8_78 : FL RX8 78 8 25 := ⟨RX8, TX8, 33, rfl, by decide, ui_X8, TB_of 755 rfl rfl⟩
set_option maxRecDepth 20000 in
theorem fp_X8_78 : FP RX8 78 8 25 (.boolean) false := ⟨RX8, TX8, 33, tyX8, rfl, by decide, ui_X8, TB_of 755 rfl rfl, tyX8_ok, nmX8, rfl, by decide +kernel, fun _ => rfl⟩
set_option maxRecDepth 20000 in
theorem fl_X8_130 : FL RX8 130 8 26 := ⟨RX8, TX8, 33, rfl, by decide, ui_X8, TB_of 756 rfl rfl⟩
set_option maxRecDepth 20000 in
theorem fp_X8_130 : FP RX8 130 8 26 (.int) false := ⟨RX8, TX8, 33, tyX8, rfl, by decide, ui_X8, TB_of 756 rfl rfl, tyX8_ok, nmX8, rfl, by decide +kernel, fun _ => rfl⟩
set_option maxRecDepth 20000 in
theorem fl_X8_133 : FL RX8 133 8 27 := ⟨RX8, TX8, 33, rfl, by decide, ui_X8, TB_of 757 rfl rfl⟩
set_option maxRecDepth 20000 in
theorem fp_X8_133 : FP RX8 133 8 27 (.int) false := ⟨RX8, TX8, 33, tyX8, rfl, by decide, ui_X8, TB_of 757 rfl rfl, tyX8_ok, nmX8, rfl, by decide +kernel, fun _ => rfl⟩
set_option maxRecDepth 20000 in
theorem fl_X8_65 : FL RX8 65 8 28 := ⟨RX8, TX8, 33, rfl, by decide, ui_X8, TB_of 758 rfl rfl⟩
set_option maxRecDepth 20000 in
theorem fp_X8_65 : FP RX8 65 8 28 (.array .boolean) true := ⟨RX8, TX8, 33, tyX8, rfl, by decide, ui_X8, TB_of 758 rfl rfl, tyX8_ok, nmX8, rfl, by decide +kernel, fun _ => rfl⟩
set_option maxRecDepth 20000 in
theorem fl_X8_68 : FL RX8 68 8 29 := ⟨RX8, TX8, 33, rfl, by decide, ui_X8, TB_of 759 rfl rfl⟩
set_option maxRecDepth 20000 in
theorem fp_X8_68 : FP RX8 68 8 29 (.array .int) true := ⟨RX8, TX8, 33, tyX8, rfl, by decide, ui_X8, TB_of 759 rfl rfl, tyX8_ok, nmX8, rfl, by decide +kernel, fun _ => rfl⟩
set_option maxRecDepth 20000 in
theorem fl_X8_139 : FL RX8 139 8 30 := ⟨RX8, TX8, 33, rfl, by decide, ui_X8, TB_of 760 rfl rfl⟩
set_option maxRecDepth 20000 in
theorem fp_X8_139 : FP RX8 139 8 30 (.int) false := ⟨RX8, TX8, 33, tyX8, rfl, by decide, ui_X8, TB_of 760 rfl rfl, tyX8_ok, nmX8, rfl, by decide +kernel, fun _ => rfl⟩
set_option maxRecDepth 20000 in
theorem fl_X8_179 : FL RX8 179 8 31 := ⟨RX8, TX8, 33, rfl, by decide, ui_X8, TB_of 761 rfl rfl⟩
set_option maxRecDepth 20000 in
theorem fp_X8_179 : FP RX8 179 8 31 (.int) false := ⟨RX8, TX8, 33, tyX8, rfl, by decide, ui_X8, TB_of 761 rfl rfl, tyX8_ok, nmX8, rfl, by decide +kernel, fun _ => rfl⟩
set_option maxRecDepth 20000 in
theorem fl_X8_166 : FL RX8 166 8 32 := ⟨RX8, TX8, 33, rfl, by decide, ui_X8, TB_of 762 rfl rfl⟩
set_option maxRecDepth 20000 in
theorem fp_X8_166 : FP RX8 166 8 32 (.int) false := ⟨RX8, TX8, 33, tyX8, rfl, by decide, ui_X8, TB_of 762 rfl rfl, tyX8_ok, nmX8, rfl, by decide +kernel, fun _ => rfl⟩
set_option maxRecDepth 20000 in
theorem wd_objI : Cond.instanceMethod objectInit ∈ TB := TB_of 74 rfl rfl
set_option maxRecDepth 20000 in
theorem wd_objC : Cond.code objectInit ⟨#[0xb1]⟩ 1 none ∈ TB := TB_of 75 (by decide +kernel) rfl
set_option maxRecDepth 20000 in
theorem wd_ii_L : Cond.initialized RL ∈ TB := TB_of 44 rfl rfl
set_option maxRecDepth 20000 in
theorem wd_ii_X7 : Cond.initialized RX7 ∈ TB := TB_of 45 rfl rfl
set_option maxRecDepth 20000 in
theorem wd_ii_X2 : Cond.initialized RX2 ∈ TB := TB_of 46 rfl rfl
set_option maxRecDepth 20000 in
theorem wd_ii_J7 : Cond.initialized RJ7 ∈ TB := TB_of 47 rfl rfl
set_option maxRecDepth 20000 in
theorem wd_ii_X1 : Cond.initialized RX1 ∈ TB := TB_of 48 rfl rfl
set_option maxRecDepth 20000 in
theorem wd_ii_X5 : Cond.initialized RX5 ∈ TB := TB_of 49 rfl rfl
set_option maxRecDepth 20000 in
theorem wd_ii_X4 : Cond.initialized RX4 ∈ TB := TB_of 50 rfl rfl
set_option maxRecDepth 20000 in
theorem wd_ii_X0 : Cond.initialized RX0 ∈ TB := TB_of 51 rfl rfl
set_option maxRecDepth 20000 in
theorem wd_ii_X3 : Cond.initialized RX3 ∈ TB := TB_of 52 rfl rfl
set_option maxRecDepth 20000 in
theorem wd_ii_Jxa1e45 : Cond.initialized RJxa1e45 ∈ TB := TB_of 53 rfl rfl
set_option maxRecDepth 20000 in
theorem wd_ii_Jxc12de : Cond.initialized RJxc12de ∈ TB := TB_of 54 rfl rfl
set_option maxRecDepth 20000 in
theorem wd_ii_Jx4a65c : Cond.initialized RJx4a65c ∈ TB := TB_of 55 rfl rfl
set_option maxRecDepth 20000 in
theorem wd_ii_X8 : Cond.initialized RX8 ∈ TB := TB_of 56 rfl rfl
set_option maxRecDepth 20000 in
theorem wd_ii_J6 : Cond.initialized RJ6 ∈ TB := TB_of 57 rfl rfl
set_option maxRecDepth 20000 in
theorem wd_ii_J9 : Cond.initialized RJ9 ∈ TB := TB_of 58 rfl rfl
set_option maxRecDepth 20000 in
theorem wd_ii_J10 : Cond.initialized RJ10 ∈ TB := TB_of 59 rfl rfl
set_option maxRecDepth 20000 in
theorem wd_ii_X6 : Cond.initialized RX6 ∈ TB := TB_of 60 rfl rfl
set_option maxRecDepth 20000 in
theorem wd_ii_J8 : Cond.initialized RJ8 ∈ TB := TB_of 61 rfl rfl
set_option maxRecDepth 20000 in
theorem wd_ii_J15 : Cond.initialized RJ15 ∈ TB := TB_of 62 rfl rfl
set_option maxRecDepth 20000 in
theorem wd_ii_J3 : Cond.initialized RJ3 ∈ TB := TB_of 63 rfl rfl
set_option maxRecDepth 20000 in
theorem wd_cl_L_8 : Cond.classLink RL 8 RX7 ∈ TB := TB_of 68 rfl rfl
set_option maxRecDepth 20000 in
theorem wd_in_X7 : Cond.instantiable RX7 11 ∈ TB := TB_of 69 rfl rfl
set_option maxRecDepth 20000 in
theorem wd_ol_X7 : Cond.methodLink RX7 1 objectInit ∈ TB := TB_of 73 rfl rfl
set_option maxRecDepth 20000 in
theorem wd_cl_X7_13 : Cond.classLink RX7 13 RX2 ∈ TB := TB_of 76 rfl rfl
set_option maxRecDepth 20000 in
theorem wd_in_X2 : Cond.instantiable RX2 2 ∈ TB := TB_of 77 rfl rfl
set_option maxRecDepth 20000 in
theorem wd_ol_X2 : Cond.methodLink RX2 3 objectInit ∈ TB := TB_of 81 rfl rfl
set_option maxRecDepth 20000 in
theorem wd_ar_int : Cond.arrayClass .int ∈ TB := TB_of 92 rfl rfl
set_option maxRecDepth 20000 in
theorem wd_cl_X7_23 : Cond.classLink RX7 23 RX1 ∈ TB := TB_of 93 rfl rfl
set_option maxRecDepth 20000 in
theorem wd_in_X1 : Cond.instantiable RX1 8 ∈ TB := TB_of 94 rfl rfl
set_option maxRecDepth 20000 in
theorem wd_ol_X1 : Cond.methodLink RX1 3 objectInit ∈ TB := TB_of 98 rfl rfl
set_option maxRecDepth 20000 in
theorem wd_cl_X7_30 : Cond.classLink RX7 30 RX5 ∈ TB := TB_of 125 rfl rfl
set_option maxRecDepth 20000 in
theorem wd_in_X5 : Cond.instantiable RX5 2 ∈ TB := TB_of 126 rfl rfl
set_option maxRecDepth 20000 in
theorem wd_ol_X5 : Cond.methodLink RX5 3 objectInit ∈ TB := TB_of 130 rfl rfl
set_option maxRecDepth 20000 in
theorem wd_cl_X7_37 : Cond.classLink RX7 37 RX4 ∈ TB := TB_of 139 rfl rfl
set_option maxRecDepth 20000 in
theorem wd_in_X4 : Cond.instantiable RX4 2 ∈ TB := TB_of 140 rfl rfl
set_option maxRecDepth 20000 in
theorem wd_ol_X4 : Cond.methodLink RX4 3 objectInit ∈ TB := TB_of 144 rfl rfl
set_option maxRecDepth 20000 in
theorem wd_cl_X7_44 : Cond.classLink RX7 44 RX0 ∈ TB := TB_of 152 rfl rfl
set_option maxRecDepth 20000 in
theorem wd_in_X0 : Cond.instantiable RX0 2 ∈ TB := TB_of 153 rfl rfl
set_option maxRecDepth 20000 in
theorem wd_ol_X0 : Cond.methodLink RX0 3 objectInit ∈ TB := TB_of 157 rfl rfl
set_option maxRecDepth 20000 in
theorem wd_cl_X7_51 : Cond.classLink RX7 51 RX3 ∈ TB := TB_of 167 rfl rfl
set_option maxRecDepth 20000 in
theorem wd_in_X3 : Cond.instantiable RX3 3 ∈ TB := TB_of 168 rfl rfl
set_option maxRecDepth 20000 in
theorem wd_ol_X3 : Cond.methodLink RX3 3 objectInit ∈ TB := TB_of 172 rfl rfl
set_option maxRecDepth 20000 in
theorem wd_cl_X7_58 : Cond.classLink RX7 58 RJx4a65c ∈ TB := TB_of 184 rfl rfl
set_option maxRecDepth 20000 in
theorem wd_in_Jx4a65c : Cond.instantiable RJx4a65c 3 ∈ TB := TB_of 185 rfl rfl
set_option maxRecDepth 20000 in
theorem wd_ol_Jxa1e45 : Cond.methodLink RJxa1e45 1 objectInit ∈ TB := TB_of 195 rfl rfl
set_option maxRecDepth 20000 in
theorem wd_co_J6_265 : Cond.constant RJ6 265 1431655765 ∈ TB := TB_of 395 rfl rfl
set_option maxRecDepth 20000 in
theorem wd_co_J6_266 : Cond.constant RJ6 266 858993459 ∈ TB := TB_of 396 rfl rfl
set_option maxRecDepth 20000 in
theorem wd_co_J6_267 : Cond.constant RJ6 267 252645135 ∈ TB := TB_of 397 rfl rfl
set_option maxRecDepth 20000 in
theorem wd_cl_X7_169 : Cond.classLink RX7 169 RX6 ∈ TB := TB_of 466 rfl rfl
set_option maxRecDepth 20000 in
theorem wd_in_X6 : Cond.instantiable RX6 4 ∈ TB := TB_of 467 rfl rfl
set_option maxRecDepth 20000 in
theorem wd_ol_X6 : Cond.methodLink RX6 1 objectInit ∈ TB := TB_of 471 rfl rfl
set_option maxRecDepth 20000 in
theorem wd_co_J8_200 : Cond.constant RJ8 200 2147483639 ∈ TB := TB_of 511 rfl rfl
set_option maxRecDepth 20000 in
theorem wd_cl_L_16 : Cond.classLink RL 16 RX8 ∈ TB := TB_of 724 rfl rfl
set_option maxRecDepth 20000 in
theorem wd_in_X8 : Cond.instantiable RX8 33 ∈ TB := TB_of 725 rfl rfl
set_option maxRecDepth 20000 in
theorem wd_ol_X8 : Cond.methodLink RX8 3 objectInit ∈ TB := TB_of 729 rfl rfl
set_option maxRecDepth 20000 in
theorem wd_mmaxS : Cond.static Lib.Math.max.name ∈ TB := TB_of 509 rfl rfl
set_option maxRecDepth 20000 in
theorem wd_mmaxC : Cond.code Lib.Math.max.name Lib.Math.max.code 2 (some .int) ∈ TB := TB_of 510 (by decide +kernel) rfl
set_option maxRecDepth 20000 in
theorem wd_mmaxL_J8_194 : Cond.methodLink RJ8 194 Lib.Math.max.name ∈ TB := TB_of 508 rfl rfl
set_option maxRecDepth 20000 in
theorem wd_mmaxL_Jx4a65c_79 : Cond.methodLink RJx4a65c 79 Lib.Math.max.name ∈ TB := TB_of 539 rfl rfl
set_option maxRecDepth 20000 in
theorem wd_mmaxL_X0_32 : Cond.methodLink RX0 32 Lib.Math.max.name ∈ TB := TB_of 622 rfl rfl
set_option maxRecDepth 20000 in
theorem wd_mmaxL_X8_189 : Cond.methodLink RX8 189 Lib.Math.max.name ∈ TB := TB_of 989 rfl rfl
set_option maxRecDepth 20000 in
theorem wd_mminS : Cond.static Lib.Math.min.name ∈ TB := TB_of 461 rfl rfl
set_option maxRecDepth 20000 in
theorem wd_mminC : Cond.code Lib.Math.min.name Lib.Math.min.code 2 (some .int) ∈ TB := TB_of 462 (by decide +kernel) rfl
set_option maxRecDepth 20000 in
theorem wd_mminL_J7_304 : Cond.methodLink RJ7 304 Lib.Math.min.name ∈ TB := TB_of 460 rfl rfl
set_option maxRecDepth 20000 in
theorem wd_mminL_X0_38 : Cond.methodLink RX0 38 Lib.Math.min.name ∈ TB := TB_of 623 rfl rfl
set_option maxRecDepth 20000 in
theorem wd_mminL_X8_174 : Cond.methodLink RX8 174 Lib.Math.min.name ∈ TB := TB_of 988 rfl rfl
set_option maxRecDepth 20000 in
theorem wd_mathI : Cond.initialized "java/lang/Math" ∈ TB := TB_of 58 rfl rfl
end
section
/-! ===== the world: the desk at 0 .. 24, the reference at 25 .. 45, the rest behind; all whole numbers in one table g (place, index) ===== -/
def cellOf (E : VE) (ad : Nat → Nat) (el : Nat) (k : Nat) (r : Nat → Int32) : va_E := match k with
  | 0 => .inr (7, [.ref (ad 1), .ref (ad 2), .ref (ad 5), .ref (ad 8), .ref (ad 16), .ref (ad 18), .ref (ad 20), .ref (ad 21), .ref (ad 24), .int (r 9), .int (r 10)])
  | 1 => .inl (cI E, 10, .inl r)
  | 2 => .inr (2, [.ref (ad 3), .ref (ad 4)])
  | 3 => .inl (cI E, 10, .inl r)
  | 4 => .inl (cI E, 10, .inl r)
  | 5 => .inr (2, [.ref (ad 6), .ref (ad 7)])
  | 6 => .inl (cI E, 10, .inl r)
  | 7 => .inl (cI E, 10, .inl r)
  | 8 => .inr (1, [.ref (ad 9), .ref (ad 10), .ref (ad 11), .ref (ad 12), .ref (ad 13), .ref (ad 14), .ref (ad 15), .int (r 7)])
  | 9 => .inl (cI E, 30, .inl r)
  | 10 => .inl (cI E, 30, .inl r)
  | 11 => .inl (cI E, 30, .inl r)
  | 12 => .inl (cI E, 30, .inl r)
  | 13 => .inl (cI E, 30, .inl r)
  | 14 => .inl (cI E, 30, .inl r)
  | 15 => .inl (cI E, 30, .inl r)
  | 16 => .inr (5, [.ref (ad 17), .int (r 1)])
  | 17 => .inl (cI E, 12, .inl r)
  | 18 => .inr (4, [.ref (ad 19), .int (r 1)])
  | 19 => .inl (cI E, 10, .inl r)
  | 20 => .inr (0, [.int (r 0), .int (r 1)])
  | 21 => .inr (3, [.ref (ad 22), .ref (ad 23), .int (r 2)])
  | 22 => .inl (cI E, 60, .inl r)
  | 23 => .inl (cI E, 60, .inl r)
  | 24 => .inr (9, [.int (r 0), .ref el, .int (r 2)])
  | 25 => .inr (8, [.int (r 0), .ref (ad 26), .ref (ad 27), .ref (ad 28), .ref (ad 29), .ref (ad 30), .ref (ad 31), .ref (ad 32), .ref (ad 33), .ref (ad 34), .ref (ad 35), .ref (ad 36), .ref (ad 37), .ref (ad 38), .ref (ad 39), .ref (ad 40), .ref (ad 41), .ref (ad 42), .ref (ad 43), .int (r 19), .int (r 20), .int (r 21), .int (r 22), .int (r 23), .int (r 24), .int (r 25), .int (r 26), .int (r 27), .ref (ad 44), .ref (ad 45), .int (r 30), .int (r 31), .int (r 32)])
  | 26 => .inl (cI E, 10, .inl r)
  | 27 => .inl (cI E, 10, .inl r)
  | 28 => .inl (cI E, 10, .inl r)
  | 29 => .inl (cI E, 10, .inl r)
  | 30 => .inl (cI E, 10, .inl r)
  | 31 => .inl (cI E, 30, .inl r)
  | 32 => .inl (cI E, 30, .inl r)
  | 33 => .inl (cI E, 30, .inl r)
  | 34 => .inl (cI E, 30, .inl r)
  | 35 => .inl (cI E, 30, .inl r)
  | 36 => .inl (cI E, 12, .inl r)
  | 37 => .inl (cI E, 60, .inl r)
  | 38 => .inl (cI E, 60, .inl r)
  | 39 => .inl (cI E, 60, .inl r)
  | 40 => .inl (cI E, 60, .inl r)
  | 41 => .inl (cI E, 600, .inl r)
  | 42 => .inl (cI E, 600, .inl r)
  | 43 => .inl (cZ E, 60, .inl r)
  | 44 => .inl (cZ E, 1024, .inl r)
  | 45 => .inl (cI E, 10, .inl r)
  | _ => .inr (0, [])
def Wd (E : VE) (ad : Nat → Nat) (el : Nat) (g : Nat → Nat → Int32) (ws : va_W) : Prop := ∀ k, k < 46 → ws[k]? = some (ad k, cellOf E ad el k (g k))
def Fr (w0 w : va_W) : Prop := w.length = w0.length ∧ ∀ j, 46 ≤ j → w[j]? = w0[j]?
def WF (E : VE) (ad : Nat → Nat) (el : Nat) (g : Nat → Nat → Int32) (w0 w : va_W) : Prop := Wd E ad el g w ∧ Fr w0 w
theorem Fr.rf {w : va_W} : Fr w w := ⟨rfl, fun _ _ => rfl⟩
theorem Fr.trans {a b c : va_W} (h1 : Fr a b) (h2 : Fr b c) : Fr a c := ⟨h2.1.trans h1.1, fun j hj => (h2.2 j hj).trans (h1.2 j hj)⟩
section WD
variable {E : VE} {ad : Nat → Nat} {el : Nat} {g : Nat → Nat → Int32} {w0 ws : va_W}
theorem WF.rf (h : Wd E ad el g ws) : WF E ad el g ws ws := ⟨h, Fr.rf⟩
theorem WF.trans {w1 : va_W} {g1 : Nat → Nat → Int32} (h : WF E ad el g w0 ws) (h1 : WF E ad el g1 ws w1) : WF E ad el g1 w0 w1 := ⟨h1.1, h.2.trans h1.2⟩
theorem Wd.set {k : Nat} {r : Nat → Int32} {e : va_E} (h : Wd E ad el g ws) (hk : k < 46) (he : cellOf E ad el k r = e) : Wd E ad el (va_up g k r) (ws.set k (ad k, e)) := by
  intro j hj
  have hl : k < ws.length := (List.getElem?_eq_some_iff.mp (h k hk)).1
  by_cases ejk : k = j
  · subst ejk
    rw [List.getElem?_set_self hl, va_up_self, he]
  · rw [List.getElem?_set_ne ejk, va_up_ne _ _ (fun z => ejk z.symm)]
    exact h j hj
theorem Fr.set {k : Nat} {e : Nat × va_E} (h : Fr w0 ws) (hk : k < 46) : Fr w0 (ws.set k e) := ⟨by rw [List.length_set]; exact h.1, fun j hj => by rw [List.getElem?_set_ne (by omega)]; exact h.2 j hj⟩
theorem WF.set {k : Nat} {r : Nat → Int32} {e : va_E} (h : WF E ad el g w0 ws) (hk : k < 46) (he : cellOf E ad el k r = e) : WF E ad el (va_up g k r) w0 (ws.set k (ad k, e)) := ⟨h.1.set hk he, h.2.set hk⟩
theorem Wd.p0 (h : Wd E ad el g ws) : ws[0]? = some (ad 0, .inr (7, [.ref (ad 1), .ref (ad 2), .ref (ad 5), .ref (ad 8), .ref (ad 16), .ref (ad 18), .ref (ad 20), .ref (ad 21), .ref (ad 24), .int ((g 0) 9), .int ((g 0) 10)])) := h 0 (by decide)
theorem WF.p0 (h : WF E ad el g w0 ws) : ws[0]? = some (ad 0, .inr (7, [.ref (ad 1), .ref (ad 2), .ref (ad 5), .ref (ad 8), .ref (ad 16), .ref (ad 18), .ref (ad 20), .ref (ad 21), .ref (ad 24), .int ((g 0) 9), .int ((g 0) 10)])) := h.1 0 (by decide)
theorem Wd.p1 (h : Wd E ad el g ws) : ws[1]? = some (ad 1, .inl (cI E, 10, .inl (g 1))) := h 1 (by decide)
theorem WF.p1 (h : WF E ad el g w0 ws) : ws[1]? = some (ad 1, .inl (cI E, 10, .inl (g 1))) := h.1 1 (by decide)
theorem Wd.p2 (h : Wd E ad el g ws) : ws[2]? = some (ad 2, .inr (2, [.ref (ad 3), .ref (ad 4)])) := h 2 (by decide)
theorem WF.p2 (h : WF E ad el g w0 ws) : ws[2]? = some (ad 2, .inr (2, [.ref (ad 3), .ref (ad 4)])) := h.1 2 (by decide)
theorem Wd.p3 (h : Wd E ad el g ws) : ws[3]? = some (ad 3, .inl (cI E, 10, .inl (g 3))) := h 3 (by decide)
theorem WF.p3 (h : WF E ad el g w0 ws) : ws[3]? = some (ad 3, .inl (cI E, 10, .inl (g 3))) := h.1 3 (by decide)
theorem Wd.p4 (h : Wd E ad el g ws) : ws[4]? = some (ad 4, .inl (cI E, 10, .inl (g 4))) := h 4 (by decide)
theorem WF.p4 (h : WF E ad el g w0 ws) : ws[4]? = some (ad 4, .inl (cI E, 10, .inl (g 4))) := h.1 4 (by decide)
theorem Wd.p5 (h : Wd E ad el g ws) : ws[5]? = some (ad 5, .inr (2, [.ref (ad 6), .ref (ad 7)])) := h 5 (by decide)
theorem WF.p5 (h : WF E ad el g w0 ws) : ws[5]? = some (ad 5, .inr (2, [.ref (ad 6), .ref (ad 7)])) := h.1 5 (by decide)
theorem Wd.p6 (h : Wd E ad el g ws) : ws[6]? = some (ad 6, .inl (cI E, 10, .inl (g 6))) := h 6 (by decide)
theorem WF.p6 (h : WF E ad el g w0 ws) : ws[6]? = some (ad 6, .inl (cI E, 10, .inl (g 6))) := h.1 6 (by decide)
theorem Wd.p7 (h : Wd E ad el g ws) : ws[7]? = some (ad 7, .inl (cI E, 10, .inl (g 7))) := h 7 (by decide)
theorem WF.p7 (h : WF E ad el g w0 ws) : ws[7]? = some (ad 7, .inl (cI E, 10, .inl (g 7))) := h.1 7 (by decide)
theorem Wd.p8 (h : Wd E ad el g ws) : ws[8]? = some (ad 8, .inr (1, [.ref (ad 9), .ref (ad 10), .ref (ad 11), .ref (ad 12), .ref (ad 13), .ref (ad 14), .ref (ad 15), .int ((g 8) 7)])) := h 8 (by decide)
theorem WF.p8 (h : WF E ad el g w0 ws) : ws[8]? = some (ad 8, .inr (1, [.ref (ad 9), .ref (ad 10), .ref (ad 11), .ref (ad 12), .ref (ad 13), .ref (ad 14), .ref (ad 15), .int ((g 8) 7)])) := h.1 8 (by decide)
theorem Wd.p9 (h : Wd E ad el g ws) : ws[9]? = some (ad 9, .inl (cI E, 30, .inl (g 9))) := h 9 (by decide)
theorem WF.p9 (h : WF E ad el g w0 ws) : ws[9]? = some (ad 9, .inl (cI E, 30, .inl (g 9))) := h.1 9 (by decide)
theorem Wd.p10 (h : Wd E ad el g ws) : ws[10]? = some (ad 10, .inl (cI E, 30, .inl (g 10))) := h 10 (by decide)
theorem WF.p10 (h : WF E ad el g w0 ws) : ws[10]? = some (ad 10, .inl (cI E, 30, .inl (g 10))) := h.1 10 (by decide)
theorem Wd.p11 (h : Wd E ad el g ws) : ws[11]? = some (ad 11, .inl (cI E, 30, .inl (g 11))) := h 11 (by decide)
theorem WF.p11 (h : WF E ad el g w0 ws) : ws[11]? = some (ad 11, .inl (cI E, 30, .inl (g 11))) := h.1 11 (by decide)
theorem Wd.p12 (h : Wd E ad el g ws) : ws[12]? = some (ad 12, .inl (cI E, 30, .inl (g 12))) := h 12 (by decide)
theorem WF.p12 (h : WF E ad el g w0 ws) : ws[12]? = some (ad 12, .inl (cI E, 30, .inl (g 12))) := h.1 12 (by decide)
theorem Wd.p13 (h : Wd E ad el g ws) : ws[13]? = some (ad 13, .inl (cI E, 30, .inl (g 13))) := h 13 (by decide)
theorem WF.p13 (h : WF E ad el g w0 ws) : ws[13]? = some (ad 13, .inl (cI E, 30, .inl (g 13))) := h.1 13 (by decide)
theorem Wd.p14 (h : Wd E ad el g ws) : ws[14]? = some (ad 14, .inl (cI E, 30, .inl (g 14))) := h 14 (by decide)
theorem WF.p14 (h : WF E ad el g w0 ws) : ws[14]? = some (ad 14, .inl (cI E, 30, .inl (g 14))) := h.1 14 (by decide)
theorem Wd.p15 (h : Wd E ad el g ws) : ws[15]? = some (ad 15, .inl (cI E, 30, .inl (g 15))) := h 15 (by decide)
theorem WF.p15 (h : WF E ad el g w0 ws) : ws[15]? = some (ad 15, .inl (cI E, 30, .inl (g 15))) := h.1 15 (by decide)
theorem Wd.p16 (h : Wd E ad el g ws) : ws[16]? = some (ad 16, .inr (5, [.ref (ad 17), .int ((g 16) 1)])) := h 16 (by decide)
theorem WF.p16 (h : WF E ad el g w0 ws) : ws[16]? = some (ad 16, .inr (5, [.ref (ad 17), .int ((g 16) 1)])) := h.1 16 (by decide)
theorem Wd.p17 (h : Wd E ad el g ws) : ws[17]? = some (ad 17, .inl (cI E, 12, .inl (g 17))) := h 17 (by decide)
theorem WF.p17 (h : WF E ad el g w0 ws) : ws[17]? = some (ad 17, .inl (cI E, 12, .inl (g 17))) := h.1 17 (by decide)
theorem Wd.p18 (h : Wd E ad el g ws) : ws[18]? = some (ad 18, .inr (4, [.ref (ad 19), .int ((g 18) 1)])) := h 18 (by decide)
theorem WF.p18 (h : WF E ad el g w0 ws) : ws[18]? = some (ad 18, .inr (4, [.ref (ad 19), .int ((g 18) 1)])) := h.1 18 (by decide)
theorem Wd.p19 (h : Wd E ad el g ws) : ws[19]? = some (ad 19, .inl (cI E, 10, .inl (g 19))) := h 19 (by decide)
theorem WF.p19 (h : WF E ad el g w0 ws) : ws[19]? = some (ad 19, .inl (cI E, 10, .inl (g 19))) := h.1 19 (by decide)
theorem Wd.p20 (h : Wd E ad el g ws) : ws[20]? = some (ad 20, .inr (0, [.int ((g 20) 0), .int ((g 20) 1)])) := h 20 (by decide)
theorem WF.p20 (h : WF E ad el g w0 ws) : ws[20]? = some (ad 20, .inr (0, [.int ((g 20) 0), .int ((g 20) 1)])) := h.1 20 (by decide)
theorem Wd.p21 (h : Wd E ad el g ws) : ws[21]? = some (ad 21, .inr (3, [.ref (ad 22), .ref (ad 23), .int ((g 21) 2)])) := h 21 (by decide)
theorem WF.p21 (h : WF E ad el g w0 ws) : ws[21]? = some (ad 21, .inr (3, [.ref (ad 22), .ref (ad 23), .int ((g 21) 2)])) := h.1 21 (by decide)
theorem Wd.p22 (h : Wd E ad el g ws) : ws[22]? = some (ad 22, .inl (cI E, 60, .inl (g 22))) := h 22 (by decide)
theorem WF.p22 (h : WF E ad el g w0 ws) : ws[22]? = some (ad 22, .inl (cI E, 60, .inl (g 22))) := h.1 22 (by decide)
theorem Wd.p23 (h : Wd E ad el g ws) : ws[23]? = some (ad 23, .inl (cI E, 60, .inl (g 23))) := h 23 (by decide)
theorem WF.p23 (h : WF E ad el g w0 ws) : ws[23]? = some (ad 23, .inl (cI E, 60, .inl (g 23))) := h.1 23 (by decide)
theorem Wd.p24 (h : Wd E ad el g ws) : ws[24]? = some (ad 24, .inr (9, [.int ((g 24) 0), .ref el, .int ((g 24) 2)])) := h 24 (by decide)
theorem WF.p24 (h : WF E ad el g w0 ws) : ws[24]? = some (ad 24, .inr (9, [.int ((g 24) 0), .ref el, .int ((g 24) 2)])) := h.1 24 (by decide)
theorem Wd.p25 (h : Wd E ad el g ws) : ws[25]? = some (ad 25, .inr (8, [.int ((g 25) 0), .ref (ad 26), .ref (ad 27), .ref (ad 28), .ref (ad 29), .ref (ad 30), .ref (ad 31), .ref (ad 32), .ref (ad 33), .ref (ad 34), .ref (ad 35), .ref (ad 36), .ref (ad 37), .ref (ad 38), .ref (ad 39), .ref (ad 40), .ref (ad 41), .ref (ad 42), .ref (ad 43), .int ((g 25) 19), .int ((g 25) 20), .int ((g 25) 21), .int ((g 25) 22), .int ((g 25) 23), .int ((g 25) 24), .int ((g 25) 25), .int ((g 25) 26), .int ((g 25) 27), .ref (ad 44), .ref (ad 45), .int ((g 25) 30), .int ((g 25) 31), .int ((g 25) 32)])) := h 25 (by decide)
theorem WF.p25 (h : WF E ad el g w0 ws) : ws[25]? = some (ad 25, .inr (8, [.int ((g 25) 0), .ref (ad 26), .ref (ad 27), .ref (ad 28), .ref (ad 29), .ref (ad 30), .ref (ad 31), .ref (ad 32), .ref (ad 33), .ref (ad 34), .ref (ad 35), .ref (ad 36), .ref (ad 37), .ref (ad 38), .ref (ad 39), .ref (ad 40), .ref (ad 41), .ref (ad 42), .ref (ad 43), .int ((g 25) 19), .int ((g 25) 20), .int ((g 25) 21), .int ((g 25) 22), .int ((g 25) 23), .int ((g 25) 24), .int ((g 25) 25), .int ((g 25) 26), .int ((g 25) 27), .ref (ad 44), .ref (ad 45), .int ((g 25) 30), .int ((g 25) 31), .int ((g 25) 32)])) := h.1 25 (by decide)
theorem Wd.p26 (h : Wd E ad el g ws) : ws[26]? = some (ad 26, .inl (cI E, 10, .inl (g 26))) := h 26 (by decide)
theorem WF.p26 (h : WF E ad el g w0 ws) : ws[26]? = some (ad 26, .inl (cI E, 10, .inl (g 26))) := h.1 26 (by decide)
theorem Wd.p27 (h : Wd E ad el g ws) : ws[27]? = some (ad 27, .inl (cI E, 10, .inl (g 27))) := h 27 (by decide)
theorem WF.p27 (h : WF E ad el g w0 ws) : ws[27]? = some (ad 27, .inl (cI E, 10, .inl (g 27))) := h.1 27 (by decide)
theorem Wd.p28 (h : Wd E ad el g ws) : ws[28]? = some (ad 28, .inl (cI E, 10, .inl (g 28))) := h 28 (by decide)
theorem WF.p28 (h : WF E ad el g w0 ws) : ws[28]? = some (ad 28, .inl (cI E, 10, .inl (g 28))) := h.1 28 (by decide)
theorem Wd.p29 (h : Wd E ad el g ws) : ws[29]? = some (ad 29, .inl (cI E, 10, .inl (g 29))) := h 29 (by decide)
theorem WF.p29 (h : WF E ad el g w0 ws) : ws[29]? = some (ad 29, .inl (cI E, 10, .inl (g 29))) := h.1 29 (by decide)
theorem Wd.p30 (h : Wd E ad el g ws) : ws[30]? = some (ad 30, .inl (cI E, 10, .inl (g 30))) := h 30 (by decide)
theorem WF.p30 (h : WF E ad el g w0 ws) : ws[30]? = some (ad 30, .inl (cI E, 10, .inl (g 30))) := h.1 30 (by decide)
theorem Wd.p31 (h : Wd E ad el g ws) : ws[31]? = some (ad 31, .inl (cI E, 30, .inl (g 31))) := h 31 (by decide)
theorem WF.p31 (h : WF E ad el g w0 ws) : ws[31]? = some (ad 31, .inl (cI E, 30, .inl (g 31))) := h.1 31 (by decide)
theorem Wd.p32 (h : Wd E ad el g ws) : ws[32]? = some (ad 32, .inl (cI E, 30, .inl (g 32))) := h 32 (by decide)
theorem WF.p32 (h : WF E ad el g w0 ws) : ws[32]? = some (ad 32, .inl (cI E, 30, .inl (g 32))) := h.1 32 (by decide)
theorem Wd.p33 (h : Wd E ad el g ws) : ws[33]? = some (ad 33, .inl (cI E, 30, .inl (g 33))) := h 33 (by decide)
theorem WF.p33 (h : WF E ad el g w0 ws) : ws[33]? = some (ad 33, .inl (cI E, 30, .inl (g 33))) := h.1 33 (by decide)
theorem Wd.p34 (h : Wd E ad el g ws) : ws[34]? = some (ad 34, .inl (cI E, 30, .inl (g 34))) := h 34 (by decide)
theorem WF.p34 (h : WF E ad el g w0 ws) : ws[34]? = some (ad 34, .inl (cI E, 30, .inl (g 34))) := h.1 34 (by decide)
theorem Wd.p35 (h : Wd E ad el g ws) : ws[35]? = some (ad 35, .inl (cI E, 30, .inl (g 35))) := h 35 (by decide)
theorem WF.p35 (h : WF E ad el g w0 ws) : ws[35]? = some (ad 35, .inl (cI E, 30, .inl (g 35))) := h.1 35 (by decide)
theorem Wd.p36 (h : Wd E ad el g ws) : ws[36]? = some (ad 36, .inl (cI E, 12, .inl (g 36))) := h 36 (by decide)
theorem WF.p36 (h : WF E ad el g w0 ws) : ws[36]? = some (ad 36, .inl (cI E, 12, .inl (g 36))) := h.1 36 (by decide)
theorem Wd.p37 (h : Wd E ad el g ws) : ws[37]? = some (ad 37, .inl (cI E, 60, .inl (g 37))) := h 37 (by decide)
theorem WF.p37 (h : WF E ad el g w0 ws) : ws[37]? = some (ad 37, .inl (cI E, 60, .inl (g 37))) := h.1 37 (by decide)
theorem Wd.p38 (h : Wd E ad el g ws) : ws[38]? = some (ad 38, .inl (cI E, 60, .inl (g 38))) := h 38 (by decide)
theorem WF.p38 (h : WF E ad el g w0 ws) : ws[38]? = some (ad 38, .inl (cI E, 60, .inl (g 38))) := h.1 38 (by decide)
theorem Wd.p39 (h : Wd E ad el g ws) : ws[39]? = some (ad 39, .inl (cI E, 60, .inl (g 39))) := h 39 (by decide)
theorem WF.p39 (h : WF E ad el g w0 ws) : ws[39]? = some (ad 39, .inl (cI E, 60, .inl (g 39))) := h.1 39 (by decide)
theorem Wd.p40 (h : Wd E ad el g ws) : ws[40]? = some (ad 40, .inl (cI E, 60, .inl (g 40))) := h 40 (by decide)
theorem WF.p40 (h : WF E ad el g w0 ws) : ws[40]? = some (ad 40, .inl (cI E, 60, .inl (g 40))) := h.1 40 (by decide)
theorem Wd.p41 (h : Wd E ad el g ws) : ws[41]? = some (ad 41, .inl (cI E, 600, .inl (g 41))) := h 41 (by decide)
theorem WF.p41 (h : WF E ad el g w0 ws) : ws[41]? = some (ad 41, .inl (cI E, 600, .inl (g 41))) := h.1 41 (by decide)
theorem Wd.p42 (h : Wd E ad el g ws) : ws[42]? = some (ad 42, .inl (cI E, 600, .inl (g 42))) := h 42 (by decide)
theorem WF.p42 (h : WF E ad el g w0 ws) : ws[42]? = some (ad 42, .inl (cI E, 600, .inl (g 42))) := h.1 42 (by decide)
theorem Wd.p43 (h : Wd E ad el g ws) : ws[43]? = some (ad 43, .inl (cZ E, 60, .inl (g 43))) := h 43 (by decide)
theorem WF.p43 (h : WF E ad el g w0 ws) : ws[43]? = some (ad 43, .inl (cZ E, 60, .inl (g 43))) := h.1 43 (by decide)
theorem Wd.p44 (h : Wd E ad el g ws) : ws[44]? = some (ad 44, .inl (cZ E, 1024, .inl (g 44))) := h 44 (by decide)
theorem WF.p44 (h : WF E ad el g w0 ws) : ws[44]? = some (ad 44, .inl (cZ E, 1024, .inl (g 44))) := h.1 44 (by decide)
theorem Wd.p45 (h : Wd E ad el g ws) : ws[45]? = some (ad 45, .inl (cI E, 10, .inl (g 45))) := h 45 (by decide)
theorem WF.p45 (h : WF E ad el g w0 ws) : ws[45]? = some (ad 45, .inl (cI E, 10, .inl (g 45))) := h.1 45 (by decide)
variable {y : MethodName} {bt : ByteArray} {nL : Nat} {rt : Option FieldType} {fr mc ms : Nat} {post : Option Value → va_W → Prop} {pc : Nat} {L : List (Option Value)} {st : List Value} {cl sl : Nat}
/-- a write into a row of ints, into a whole-number field -/
theorem W_iast (k : Nat) {n : Nat} {i x : Int32} (hw : WF E ad el g w0 ws) (hk : k < 46) (hc : ∀ r, cellOf E ad el k r = .inl (cI E, n, .inl r)) (hd : decode bt pc = .ok (.iastore, 1)) (hin : vp_in i n)
    (kk : ∀ ws', WF E ad el (va_up g k (upd (g k) i.toNatClampNeg x)) w0 ws' → V E y bt nL rt fr mc ms post (pc + 1) L st ws' cl sl) : V E y bt nL rt fr mc ms post pc L (.int x :: .int i :: .ref (ad k) :: st) ws cl sl :=
  V_iast k hd ((hw.1 k hk).trans (by rw [hc])) hin (kk _ (hw.set hk (hc _)))
theorem W_zast (k : Nat) {n : Nat} {i x : Int32} (hw : WF E ad el g w0 ws) (hk : k < 46) (hc : ∀ r, cellOf E ad el k r = .inl (cZ E, n, .inl r)) (hd : decode bt pc = .ok (.bastore, 1)) (hin : vp_in i n)
    (kk : ∀ ws', WF E ad el (va_up g k (upd (g k) i.toNatClampNeg (vp_nar .boolean x))) w0 ws' → V E y bt nL rt fr mc ms post (pc + 1) L st ws' cl sl) : V E y bt nL rt fr mc ms post pc L (.int x :: .int i :: .ref (ad k) :: st) ws cl sl :=
  V_zast k hd ((hw.1 k hk).trans (by rw [hc])) hin (kk _ (hw.set hk (hc _)))
theorem W_put (k : Nat) {ix ci j : Nat} {fs : List Value} {x : Int32} {ty : FieldType} (hw : WF E ad el g w0 ws) (hk : k < 46) (hF : FP y.cls ix ci j ty false) (hd : decode bt pc = .ok (.putfield ix, 3)) (hc : cellOf E ad el k (g k) = .inr (ci, fs)) (hc2 : cellOf E ad el k (upd (g k) j x) = .inr (ci, fs.set j (.int x))) (hn : narrow ty (.int x) = .int x) (hf : fits ty (.int x) = true) (hj : j < fs.length)
    (kk : ∀ ws', WF E ad el (va_up g k (upd (g k) j x)) w0 ws' → V E y bt nL rt fr mc ms post (pc + 3) L st ws' cl sl) : V E y bt nL rt fr mc ms post pc L (.int x :: .ref (ad k) :: st) ws cl sl :=
  V_put k hF hd ((hw.1 k hk).trans (by rw [hc])) hn hf hj (kk _ (hw.set hk hc2))
end WD
end
section
/-! ===== calls that only read; sets as numbers; the first of a row ===== -/
section CR
variable {E : VE} {y : MethodName} {bt : ByteArray} {nL : Nat} {rt : Option FieldType} {fr mc ms : Nat} {post : Option Value → va_W → Prop} {pc : Nat} {L : List (Option Value)} {st : List Value} {ws : va_W} {cl sl : Nat}
theorem V_rdV (q : Nat) {y' : MethodName} {bt' : ByteArray} {nL' : Nat} {rt' : Option FieldType} {fr' : Nat} {x : Int32} {As st0 : List Value} {ix ci b n : Nat} {fs : List Value} {T : u_T} {N : Nat}
    (hM : MW y' bt' nL' rt' n) (hl' : MV y.cls ix y') (hd : decode bt pc = .ok (.invokevirtual ix, 3)) (hC : Ct E y' bt' nL' rt' fr' 0 0 (.ref b :: As) ws (fun r w => r = some (.int x) ∧ w = ws)) (he : ws[q]? = some (b, .inr (ci, fs))) (hc : CL[ci]? = some (y'.cls, T, N))
    (hn : As.length = n) (hst : st0 = As.reverse ++ .ref b :: st) (hW : (st.map fun v => v.category).sum ≤ 8) (hfr : fr' + 1 ≤ fr) (hnL : nL' ≤ 21) (hcl : cl ≤ mc) (hsl : sl ≤ ms)
    (k : V E y bt nL rt fr mc ms post (pc + 3) L (.int x :: st) ws cl sl) : V E y bt nL rt fr mc ms post pc L st0 ws cl sl := by
  refine V_callV q hM hl' hd hC he hc hn hst hW hfr hnL hcl hsl ?_
  rintro _ _ ⟨rfl, rfl⟩
  exact k
theorem V_rdS {y' : MethodName} {bt' : ByteArray} {nL' : Nat} {rt' : Option FieldType} {fr' : Nat} {x : Int32} {As st0 : List Value} {ix n : Nat}
    (hM : MW y' bt' nL' rt' n) (hl' : MS y.cls ix y') (hd : decode bt pc = .ok (.invokestatic ix, 3)) (hC : Ct E y' bt' nL' rt' fr' 0 0 As ws (fun r w => r = some (.int x) ∧ w = ws))
    (hn : As.length = n) (hst : st0 = As.reverse ++ st) (hW : (st.map fun v => v.category).sum ≤ 8) (hfr : fr' + 1 ≤ fr) (hnL : nL' ≤ 21) (hcl : cl ≤ mc) (hsl : sl ≤ ms)
    (k : V E y bt nL rt fr mc ms post (pc + 3) L (.int x :: st) ws cl sl) : V E y bt nL rt fr mc ms post pc L st0 ws cl sl := by
  refine V_callS hM hl' hd hC hn hst hW hfr hnL hcl hsl ?_
  rintro _ _ ⟨rfl, rfl⟩
  exact k
end CR
theorem nx_and (a b : Nat) : nI a &&& nI b = nI (a &&& b) := by
  apply Int32.toBitVec_inj.1
  show BitVec.ofNat 32 a &&& BitVec.ofNat 32 b = BitVec.ofNat 32 (a &&& b)
  apply BitVec.eq_of_getLsbD_eq
  intro i hi
  simp [hi]
theorem nx_or (a b : Nat) : nI a ||| nI b = nI (a ||| b) := by
  apply Int32.toBitVec_inj.1
  show BitVec.ofNat 32 a ||| BitVec.ofNat 32 b = BitVec.ofNat 32 (a ||| b)
  apply BitVec.eq_of_getLsbD_eq
  intro i hi
  simp [hi]
theorem nx_xor (a b : Nat) : nI a ^^^ nI b = nI (a ^^^ b) := by
  apply Int32.toBitVec_inj.1
  show BitVec.ofNat 32 a ^^^ BitVec.ofNat 32 b = BitVec.ofNat 32 (a ^^^ b)
  apply BitVec.eq_of_getLsbD_eq
  intro i hi
  simp [hi]
theorem s_l : ∀ n, n < 32 → ((nI n &&& 31).toBitVec.smod 32).toNat = n := by decide +kernel
theorem shl1 : ∀ p, p < 31 → (1 : Int32) <<< (nI p &&& 31) = nI (2 ^ p) := by decide +kernel
theorem bitAt {S p : Nat} (hS : S < 2 ^ 31) (hp : p < 32) : (nI S >>> (nI p &&& 31)) &&& 1 = if S.testBit p then 1 else 0 := by
  rw [pk_shrN hS _ p (s_l p hp), pk_andN (n := S / 2 ^ p) (Nat.lt_of_le_of_lt (Nat.div_le_self _ _) (by omega)) 1 (by decide)]
  have e : S.testBit p = decide (S / 2 ^ p % 2 = 1) := by rw [Nat.testBit_eq_decide_div_mod_eq]
  rw [e]
  rcases Nat.mod_two_eq_zero_or_one (S / 2 ^ p) with h | h
  · rw [h, if_neg (by simp)]; exact nI_0
  · rw [h, if_pos (by simp)]; decide
theorem bitAt_ne {S p : Nat} (hS : S < 2 ^ 31) (hp : p < 32) (h : ¬ (nI S >>> (nI p &&& 31)) &&& 1 = 0) : S.testBit p = true := by
  rw [bitAt hS hp] at h
  cases hb : S.testBit p with
  | true => rfl
  | false => rw [hb] at h; exact absurd rfl h
theorem bitAt_eq {S p : Nat} (hS : S < 2 ^ 31) (hp : p < 32) (h : (nI S >>> (nI p &&& 31)) &&& 1 = 0) : S.testBit p = false := by
  rw [bitAt hS hp] at h
  cases hb : S.testBit p with
  | false => rfl
  | true => rw [hb] at h; exact absurd h (by decide)
theorem in_of {p : Int32} {n : Nat} (hn : n < 2 ^ 31) (h1 : ¬ p < 0) (h2 : ¬ nI n ≤ p) : vp_in p n := by
  rcases pk_ix p hn with h | h | ⟨j, hj, rfl⟩
  · exact absurd h h1
  · exact absurd h h2
  · exact vp_in_nI hj hn
/-- the first of k, k + 1 .. (n of them) with P; -1 -/
def fi (P : Nat → Bool) : Nat → Nat → Int32
  | 0, _ => -1
  | n + 1, k => if P k = true then nI k else fi P n (k + 1)
theorem fi_congr {P Q : Nat → Bool} : ∀ (n k : Nat), (∀ j, k ≤ j → j < k + n → P j = Q j) → fi P n k = fi Q n k
  | 0, _, _ => rfl
  | n + 1, k, h => by
    unfold fi
    rw [h k (Nat.le_refl _) (by omega), fi_congr n (k + 1) (fun j h1 h2 => h j (by omega) (by omega))]
theorem fi_none {P : Nat → Bool} : ∀ (n k : Nat), k + n < 2 ^ 31 → (fi P n k = -1 ↔ ∀ j, k ≤ j → j < k + n → P j = false)
  | 0, k, _ => ⟨fun _ j h1 h2 => by omega, fun _ => rfl⟩
  | n + 1, k, hk => by
    unfold fi
    by_cases hP : P k = true
    · rw [if_pos hP]
      refine ⟨fun h => ?_, fun h => ?_⟩
      · exact absurd (h ▸ nI_pos (n := k) (by omega)) (by decide)
      · rw [h k (Nat.le_refl _) (by omega)] at hP
        cases hP
    · rw [if_neg hP, fi_none n (k + 1) (by omega)]
      refine ⟨fun h j h1 h2 => ?_, fun h j h1 h2 => h j (by omega) (by omega)⟩
      by_cases e : j = k
      · subst e
        simpa using hP
      · exact h j (by omega) (by omega)
theorem fi_some {P : Nat → Bool} : ∀ (n k : Nat), fi P n k = -1 ∨ ∃ j, k ≤ j ∧ j < k + n ∧ P j = true ∧ fi P n k = nI j
  | 0, _ => Or.inl rfl
  | n + 1, k => by
    unfold fi
    by_cases hP : P k = true
    · exact Or.inr ⟨k, Nat.le_refl _, by omega, hP, by rw [if_pos hP]⟩
    · rw [if_neg hP]
      rcases fi_some n (k + 1) with h | ⟨j, h1, h2, h3, h4⟩
      · exact Or.inl h
      · exact Or.inr ⟨j, by omega, by omega, h3, h4⟩
theorem leK {a b : Nat} (ha : a < 2 ^ 31) (hb : b < 2 ^ 31) (h : nI a ≤ nI b) : a ≤ b := (nI_leI ha hb).mp h
theorem nleK {a b : Nat} (ha : a < 2 ^ 31) (hb : b < 2 ^ 31) (h : ¬ nI a ≤ nI b) : b < a := Nat.lt_of_not_le (fun z => h ((nI_leI ha hb).mpr z))
theorem ltK {a b : Nat} (ha : a < 2 ^ 31) (hb : b < 2 ^ 31) (h : nI a < nI b) : a < b := (nI_ltI ha hb).mp h
theorem nltK {a b : Nat} (ha : a < 2 ^ 31) (hb : b < 2 ^ 31) (h : ¬ nI a < nI b) : b ≤ a := Nat.le_of_not_lt (fun z => h ((nI_ltI ha hb).mpr z))
end
section
/-! ===== rows by a number that is counted ===== -/
section IX
variable {E : VE} {ad : Nat → Nat} {el : Nat} {g : Nat → Nat → Int32} {w0 ws : va_W}
variable {y : MethodName} {bt : ByteArray} {nL : Nat} {rt : Option FieldType} {fr mc ms : Nat} {post : Option Value → va_W → Prop} {pc : Nat} {L : List (Option Value)} {st : List Value} {cl sl : Nat}
theorem V_ialdN (q : Nat) {a n j : Nat} {f : Nat → Int32} (hd : decode bt pc = .ok (.iaload, 1)) (he : ws[q]? = some (a, .inl (cI E, n, .inl f))) (hj : j < n) (hn : n < 2 ^ 31) (k : V E y bt nL rt fr mc ms post (pc + 1) L (.int (f j) :: st) ws cl sl) : V E y bt nL rt fr mc ms post pc L (.int (nI j) :: .ref a :: st) ws cl sl := by
  refine V_iald q hd he (vp_in_nI hj hn) ?_
  rw [nI_clamp (by omega)]
  exact k
theorem V_zaldN (q : Nat) {a n j : Nat} {f : Nat → Int32} (hd : decode bt pc = .ok (.baload, 1)) (he : ws[q]? = some (a, .inl (cZ E, n, .inl f))) (hj : j < n) (hn : n < 2 ^ 31) (k : V E y bt nL rt fr mc ms post (pc + 1) L (.int (f j) :: st) ws cl sl) : V E y bt nL rt fr mc ms post pc L (.int (nI j) :: .ref a :: st) ws cl sl := by
  refine V_zald q hd he (vp_in_nI hj hn) ?_
  rw [nI_clamp (by omega)]
  exact k
theorem W_iastN (k : Nat) {n j : Nat} {x : Int32} (hw : WF E ad el g w0 ws) (hk : k < 46) (hc : ∀ r, cellOf E ad el k r = .inl (cI E, n, .inl r)) (hd : decode bt pc = .ok (.iastore, 1)) (hj : j < n) (hn : n < 2 ^ 31)
    (kk : ∀ ws', WF E ad el (va_up g k (upd (g k) j x)) w0 ws' → V E y bt nL rt fr mc ms post (pc + 1) L st ws' cl sl) : V E y bt nL rt fr mc ms post pc L (.int x :: .int (nI j) :: .ref (ad k) :: st) ws cl sl := by
  refine W_iast k hw hk hc hd (vp_in_nI hj hn) ?_
  rw [nI_clamp (by omega)]
  exact kk
theorem W_zastN (k : Nat) {n j : Nat} {x : Int32} (hw : WF E ad el g w0 ws) (hk : k < 46) (hc : ∀ r, cellOf E ad el k r = .inl (cZ E, n, .inl r)) (hd : decode bt pc = .ok (.bastore, 1)) (hj : j < n) (hn : n < 2 ^ 31)
    (kk : ∀ ws', WF E ad el (va_up g k (upd (g k) j (vp_nar .boolean x))) w0 ws' → V E y bt nL rt fr mc ms post (pc + 1) L st ws' cl sl) : V E y bt nL rt fr mc ms post pc L (.int x :: .int (nI j) :: .ref (ad k) :: st) ws cl sl := by
  refine W_zast k hw hk hc hd (vp_in_nI hj hn) ?_
  rw [nI_clamp (by omega)]
  exact kk
end IX
/-- a truth as a number -/
def bI (x : Bool) : Int32 := if x = true then 1 else 0
theorem bI_or (x : Bool) : bI x = 0 ∨ bI x = 1 := by cases x <;> decide
theorem bI_0 {x : Bool} (h : bI x = 0) : x = false := by cases x with
  | false => rfl
  | true => exact absurd h (by decide)
theorem bI_1 {x : Bool} (h : ¬ bI x = 0) : x = true := by cases x with
  | true => rfl
  | false => exact absurd rfl h
theorem bI_inj {x y : Bool} (h : bI x = bI y) : x = y := by cases x <;> cases y <;> first | rfl | exact absurd h (by decide)
theorem bI_ne {x y : Bool} (h : ¬ bI x = bI y) : ¬ x = y := fun e => h (by rw [e])
theorem upd_upd (f : Nat → Int32) (k : Nat) (a b : Int32) : upd (upd f k a) k b = upd f k b := by
  funext j
  unfold upd
  by_cases h : j = k <;> simp [h]
theorem va_up_up {α : Type} (f : Nat → α) (k : Nat) (a b : α) : va_up (va_up f k a) k b = va_up f k b := by
  funext j
  unfold va_up
  by_cases h : j = k <;> simp [h]
theorem va_up_sw {α : Type} (f : Nat → α) {k j : Nat} (h : k ≠ j) (a b : α) : va_up (va_up f k a) j b = va_up (va_up f j b) k a := by
  funext i
  unfold va_up
  by_cases h1 : i = k
  · by_cases h2 : i = j
    · exact absurd (h1.symm.trans h2) h
    · simp [h1, h]
  · by_cases h2 : i = j
    · simp [h2, Ne.symm h]
    · simp [h1, h2]
theorem va_up_id {α : Type} (f : Nat → α) (k : Nat) : va_up f k (f k) = f := by
  funext i
  unfold va_up
  by_cases h : i = k <;> simp [h]
end
section
/-! ===== fields and a constructor of nest mates ===== -/
def nestW : List Cond := [Cond.fieldLinkNest "TrainDesk" 238 "TrainDesk$Needs" "size" "I" "TrainDesk", Cond.fieldLinkNest "TrainDesk" 240 "TrainDesk$Tests" "size" "I" "TrainDesk", Cond.methodLinkNest "TrainDesk" 46 yX0_init "TrainDesk", Cond.fieldLinkNest "TrainDesk" 220 "TrainDesk$Hunt" "least" "I" "TrainDesk", Cond.fieldLinkNest "TrainDesk" 223 "TrainDesk$Hunt" "spent" "I" "TrainDesk", Cond.fieldLinkNest "TrainDesk" 249 "TrainDesk$OneWays" "size" "I" "TrainDesk", Cond.fieldLinkNest "TrainDesk" 199 "TrainDesk$Train" "ahead" "[I" "TrainDesk", Cond.fieldLinkNest "TrainDesk" 206 "TrainDesk$Train" "behind" "[I" "TrainDesk", Cond.fieldLinkNest "TrainDesk" 193 "TrainDesk$Train" "load" "I" "TrainDesk", Cond.fieldLinkNest "TrainDesk" 209 "TrainDesk$Train" "isBack" "Z" "TrainDesk"]
theorem nestW_in : ∀ w ∈ nestW, w ∈ lw_tbl := by
  intro w hw
  simp only [nestW, List.mem_cons, List.not_mem_nil, or_false] at hw
  rcases hw with rfl | rfl | rfl | rfl | rfl | rfl | rfl | rfl | rfl | rfl
  · exact List.mem_of_getElem? (i := 107) (by decide +kernel)
  · exact List.mem_of_getElem? (i := 133) (by decide +kernel)
  · exact List.mem_of_getElem? (i := 154) (by decide +kernel)
  · exact List.mem_of_getElem? (i := 159) (by decide +kernel)
  · exact List.mem_of_getElem? (i := 161) (by decide +kernel)
  · exact List.mem_of_getElem? (i := 176) (by decide +kernel)
  · exact List.mem_of_getElem? (i := 473) (by decide +kernel)
  · exact List.mem_of_getElem? (i := 475) (by decide +kernel)
  · exact List.mem_of_getElem? (i := 477) (by decide +kernel)
  · exact List.mem_of_getElem? (i := 479) (by decide +kernel)
def NST (E : VE) : Prop := ∀ (A : Nat → Prop) (s : State), E.2.2.2 A s → ∀ w ∈ nestW, va_Nw w s
def FN (own : String) (ix ci k : Nat) : Prop := ∃ (C : String) (T : u_T) (N : Nat), CL[ci]? = some (C, T, N) ∧ k < N ∧ (∀ w ∈ u_ws C T N, w ∈ TB) ∧ Cond.fieldLinkNest own ix (T k).1 (T k).2.1 (T k).2.2.1 "TrainDesk" ∈ nestW
def FNP (own : String) (ix ci k : Nat) (ty : FieldType) : Prop := ∃ (C : String) (T : u_T) (N : Nat) (ty0 : Nat → FieldType), CL[ci]? = some (C, T, N) ∧ k < N ∧ (∀ w ∈ u_ws C T N, w ∈ TB) ∧ Cond.fieldLinkNest own ix (T k).1 (T k).2.1 (T k).2.2.1 "TrainDesk" ∈ nestW ∧
  (∀ j, j < N → parseFieldDescriptor (T j).2.2.1 = some (ty0 j)) ∧ (∀ a, a < N → ∀ b, b < N → a ≠ b → (T a).2.1 ≠ (T b).2.1) ∧ (T k).2.2.2 = false ∧ parseFieldDescriptor (T k).2.2.1 = some ty
section NS
variable {E : VE} {y : MethodName} {bt : ByteArray} {nL : Nat} {rt : Option FieldType} {fr mc ms : Nat} {post : Option Value → va_W → Prop} {pc : Nat} {L : List (Option Value)} {st : List Value} {ws : va_W} {cl sl : Nat}
theorem V_getN (q : Nat) {ix ci j a : Nat} {fs : List Value} {v : Value} (hE : NST E) (hF : FN y.cls ix ci j) (hd : decode bt pc = .ok (.getfield ix, 3)) (he : ws[q]? = some (a, .inr (ci, fs))) (hv : fs[j]? = some v) (k : V E y bt nL rt fr mc ms post (pc + 3) L (v :: st) ws cl sl) : V E y bt nL rt fr mc ms post pc L (.ref a :: st) ws cl sl := by
  intro p e s m args below meth c H locs ls A C hl hP hD hS
  obtain ⟨C9, T9, N9, hc, hk, hin, hlk⟩ := hF
  exact va_getN C.1 C.2.1 C.2.2.2.2.2.1 hin C.2.2.2.2.1 C.2.2.2.2.2.2.2.2.1 hP q he hc j hk (va_Nw.use rfl (hE A s C.2.2.2.2.2.2.2.2.2.2.2 _ hlk)) (fun _ h9 => h9) hv hd (k p e s m args below meth c H locs ls A C hl hP hD hS)
theorem V_putN (q : Nat) {ix ci j a : Nat} {fs : List Value} {v : Value} {ty : FieldType} (hE : NST E) (hF : FNP y.cls ix ci j ty) (hd : decode bt pc = .ok (.putfield ix, 3)) (he : ws[q]? = some (a, .inr (ci, fs))) (hn : narrow ty v = v) (hf : fits ty v = true) (hj : j < fs.length) (k : V E y bt nL rt fr mc ms post (pc + 3) L st (ws.set q (a, .inr (ci, fs.set j v))) cl sl) : V E y bt nL rt fr mc ms post pc L (v :: .ref a :: st) ws cl sl := by
  intro p e s m args below meth c H locs ls A C hl hP hD hS
  obtain ⟨C9, T9, N9, ty0, hc, hk, hin, hlk, hty, hnm, hfin, hpd⟩ := hF
  exact va_putN C.1 C.2.1 C.2.2.2.2.2.1 hin ty0 hty hnm C.2.2.2.2.1 C.2.2.2.2.2.2.2.2.1 hP hD hS q he hc j hk (va_Nw.use rfl (hE A s C.2.2.2.2.2.2.2.2.2.2.2 _ hlk)) (fun _ h9 => h9) hfin hpd hn hf hj hd (fun H locs hP hD hS => k p e s m args below meth c H locs ls A C hl hP hD hS)
theorem V_callIN {y' : MethodName} {bt' : ByteArray} {nL' : Nat} {fr' mc' ms' : Nat} {post' : Option Value → va_W → Prop} {As st0 : List Value} {ix b n : Nat}
    (hE : NST E) (hM : MW y' bt' nL' none n) (hlk : Cond.methodLinkNest y.cls ix y' "TrainDesk" ∈ nestW) (hin : Cond.instanceMethod y' ∈ TB) (hy1 : y'.name = "<init>") (hd : decode bt pc = .ok (.invokespecial ix, 3)) (hC : Ct E y' bt' nL' none fr' mc' ms' (.ref b :: As) ws post')
    (hn : As.length = n) (hst : st0 = As.reverse ++ .ref b :: st) (hW : (st.map fun v => v.category).sum ≤ 8) (hfr : fr' + 1 ≤ fr) (hnL : nL' ≤ 21) (hcl : cl + mc' ≤ mc) (hsl : sl + ms' ≤ ms)
    (k : ∀ (v : Option Value) (ws' : va_W), post' v ws' → V E y bt nL rt fr mc ms post (pc + 3) L (v.toList ++ st) ws' (cl + mc') (sl + ms')) : V E y bt nL rt fr mc ms post pc L st0 ws cl sl := by
  intro p e s m args below meth c H locs ls A C hl hP hD hS
  have hts := C.2.2.2.2.2.1
  refine V_run (post' := post') (a := (Value.ref b :: As).toArray) (y' := y') C hl hD hS ?_ k
  refine va_runIN (bytes := bt') (maxL := nL') (n := n) ⟨C.1, C.2.1, C.2.2.2.1, C.2.2.2.2.1, hts⟩ (hC C.2.2.2.2.2.2.2.2.2.2.1 H.size) ⟨va_cnB n hts (gUni0 hM.1) rfl rfl rfl (hE A s C.2.2.2.2.2.2.2.2.2.2.2 _ hlk) (hts _ hM.2.1) hM.2.2.1 ⟨hfr, ?_⟩, hy1, hts _ hin⟩ ⟨Pc_blind C.2.2.2.2.2.2.2.2.2.2.1, Pc_start C hP hD hS⟩ rfl hn hl.1.1 hst ?_ hd ⟨hcl, hsl⟩
  · show 8 + (nL' + 11) + 40 * fr' ≤ 40 * fr
    omega
  · exact lv_room hW
end NS
theorem fn_X7_238 : FN RX7 238 1 7 := ⟨RX1, TX1, 8, rfl, by decide, ui_X1, List.mem_of_getElem? (i := 0) rfl⟩
theorem fnp_X7_238 : FNP RX7 238 1 7 (.int) := ⟨RX1, TX1, 8, tyX1, rfl, by decide, ui_X1, List.mem_of_getElem? (i := 0) rfl, tyX1_ok, nmX1, rfl, by decide +kernel⟩
theorem fn_X7_240 : FN RX7 240 5 1 := ⟨RX5, TX5, 2, rfl, by decide, ui_X5, List.mem_of_getElem? (i := 1) rfl⟩
theorem fnp_X7_240 : FNP RX7 240 5 1 (.int) := ⟨RX5, TX5, 2, tyX5, rfl, by decide, ui_X5, List.mem_of_getElem? (i := 1) rfl, tyX5_ok, nmX5, rfl, by decide +kernel⟩
theorem fn_X7_220 : FN RX7 220 0 0 := ⟨RX0, TX0, 2, rfl, by decide, ui_X0, List.mem_of_getElem? (i := 3) rfl⟩
theorem fnp_X7_220 : FNP RX7 220 0 0 (.int) := ⟨RX0, TX0, 2, tyX0, rfl, by decide, ui_X0, List.mem_of_getElem? (i := 3) rfl, tyX0_ok, nmX0, rfl, by decide +kernel⟩
theorem fn_X7_223 : FN RX7 223 0 1 := ⟨RX0, TX0, 2, rfl, by decide, ui_X0, List.mem_of_getElem? (i := 4) rfl⟩
theorem fnp_X7_223 : FNP RX7 223 0 1 (.int) := ⟨RX0, TX0, 2, tyX0, rfl, by decide, ui_X0, List.mem_of_getElem? (i := 4) rfl, tyX0_ok, nmX0, rfl, by decide +kernel⟩
theorem fn_X7_249 : FN RX7 249 3 2 := ⟨RX3, TX3, 3, rfl, by decide, ui_X3, List.mem_of_getElem? (i := 5) rfl⟩
theorem fnp_X7_249 : FNP RX7 249 3 2 (.int) := ⟨RX3, TX3, 3, tyX3, rfl, by decide, ui_X3, List.mem_of_getElem? (i := 5) rfl, tyX3_ok, nmX3, rfl, by decide +kernel⟩
theorem fn_X7_199 : FN RX7 199 6 0 := ⟨RX6, TX6, 4, rfl, by decide, ui_X6, List.mem_of_getElem? (i := 6) rfl⟩
theorem fn_X7_206 : FN RX7 206 6 1 := ⟨RX6, TX6, 4, rfl, by decide, ui_X6, List.mem_of_getElem? (i := 7) rfl⟩
theorem fn_X7_193 : FN RX7 193 6 2 := ⟨RX6, TX6, 4, rfl, by decide, ui_X6, List.mem_of_getElem? (i := 8) rfl⟩
theorem fn_X7_209 : FN RX7 209 6 3 := ⟨RX6, TX6, 4, rfl, by decide, ui_X6, List.mem_of_getElem? (i := 9) rfl⟩
theorem fnp_X7_209 : FNP RX7 209 6 3 (.boolean) := ⟨RX6, TX6, 4, tyX6, rfl, by decide, ui_X6, List.mem_of_getElem? (i := 9) rfl, tyX6_ok, nmX6, rfl, by decide +kernel⟩
theorem mn_X7_46 : Cond.methodLinkNest RX7 46 yX0_init "TrainDesk" ∈ nestW := List.mem_of_getElem? (i := 2) rfl
theorem wd_hi : Cond.instanceMethod yX0_init ∈ TB := TB_of 155 rfl rfl
end
section
/-! ===== Offers: the rows at b + 1 (versions) and b + 2 (worths), b = 2 or 5 ===== -/
def at10 (f : Nat → Int32) (p : Int32) : Int32 := if p < 0 then -1 else if 10 ≤ p then -1 else f p.toNatClampNeg
def put10 (g : Nat → Nat → Int32) (b : Nat) (p v u : Int32) : Nat → Nat → Int32 := if p < 0 then g else if 10 ≤ p then g else va_up (va_up g (b + 1) (upd (g (b + 1)) p.toNatClampNeg v)) (b + 2) (upd (g (b + 2)) p.toNatClampNeg u)
/-- the places at which a row isn't -1, as bits -/
def maskN (f : Nat → Int32) : Nat → Nat
  | 0 => 0
  | k + 1 => if f k = -1 then maskN f k else maskN f k ||| 2 ^ k
def sumI (f : Nat → Int32) (S : Nat) : Nat → Int32
  | 0 => 0
  | k + 1 => if S.testBit k = true then sumI f S k + f k else sumI f S k
section OFF
variable {E : VE} {ad : Nat → Nat} {el : Nat} {g : Nat → Nat → Int32} {w0 ws : va_W} {b : Nat}
theorem WF.o0 (h : WF E ad el g w0 ws) (hb : b = 2 ∨ b = 5) : ws[b]? = some (ad b, .inr (2, [.ref (ad (b + 1)), .ref (ad (b + 2))])) := by
  rcases hb with rfl | rfl
  · exact h.p2
  · exact h.p5
theorem WF.o1 (h : WF E ad el g w0 ws) (hb : b = 2 ∨ b = 5) : ws[b + 1]? = some (ad (b + 1), .inl (cI E, 10, .inl (g (b + 1)))) := by
  rcases hb with rfl | rfl
  · exact h.p3
  · exact h.p6
theorem WF.o2 (h : WF E ad el g w0 ws) (hb : b = 2 ∨ b = 5) : ws[b + 2]? = some (ad (b + 2), .inl (cI E, 10, .inl (g (b + 2)))) := by
  rcases hb with rfl | rfl
  · exact h.p4
  · exact h.p7
theorem o_c1 (hb : b = 2 ∨ b = 5) : ∀ r, cellOf E ad el (b + 1) r = .inl (cI E, 10, .inl r) := by
  rcases hb with rfl | rfl <;> exact fun _ => rfl
theorem o_c2 (hb : b = 2 ∨ b = 5) : ∀ r, cellOf E ad el (b + 2) r = .inl (cI E, 10, .inl r) := by
  rcases hb with rfl | rfl <;> exact fun _ => rfl
set_option maxHeartbeats 4000000 in
set_option maxRecDepth 20000 in
theorem ct_X2_versionOf (hw : WF E ad el g w0 ws) (hb : b = 2 ∨ b = 5) (p : Int32) : Ct E yX2_versionOf cX2_versionOf 2 (some (.int)) 0 0 0 [.ref (ad b), .int p] ws (fun r w => r = some (.int (at10 (g (b + 1)) p)) ∧ w = ws) := by
  refine Ct_of mw_X2_versionOf rfl (Nat.le_of_ble_eq_true rfl) ?_
  refine V_iload_n dX2_versionOf_0 rfl ?_
  refine V_if_lt 19 dX2_versionOf_1 (by decide) (fun h1 => ?_) (fun h1 => ?_)
  · skip
    refine V_iconst (v := -1) dX2_versionOf_19 (by decide) ?_
    refine V_iret dX2_versionOf_20 rfl (by decide) (by decide) ?_
    exact ⟨by rw [at10, if_pos h1], rfl⟩
  · skip
    refine V_iload_n dX2_versionOf_4 rfl ?_
    refine V_bipush (v := 10) dX2_versionOf_5 (by decide) ?_
    refine V_icmp_ge 19 dX2_versionOf_7 (by decide) (fun h7 => ?_) (fun h7 => ?_)
    · skip
      refine V_iconst (v := -1) dX2_versionOf_19 (by decide) ?_
      refine V_iret dX2_versionOf_20 rfl (by decide) (by decide) ?_
      exact ⟨by rw [at10, if_neg h1, if_pos h7], rfl⟩
    · skip
      refine V_aload_n dX2_versionOf_10 rfl ?_
      refine V_get (b) fl_X2_9 dX2_versionOf_11 (hw.o0 hb) rfl ?_
      refine V_iload_n dX2_versionOf_14 rfl ?_
      refine V_iald (b + 1) dX2_versionOf_15 (hw.o1 hb) (in_of (n := 10) (by decide) h1 h7) ?_
      refine V_goto 20 dX2_versionOf_16 (by decide) ?_
      refine V_iret dX2_versionOf_20 rfl (by decide) (by decide) ?_
      exact ⟨by rw [at10, if_neg h1, if_neg h7], rfl⟩
set_option maxHeartbeats 4000000 in
set_option maxRecDepth 20000 in
theorem ct_X2_worthOf (hw : WF E ad el g w0 ws) (hb : b = 2 ∨ b = 5) (p : Int32) : Ct E yX2_worthOf cX2_worthOf 2 (some (.int)) 0 0 0 [.ref (ad b), .int p] ws (fun r w => r = some (.int (at10 (g (b + 2)) p)) ∧ w = ws) := by
  refine Ct_of mw_X2_worthOf rfl (Nat.le_of_ble_eq_true rfl) ?_
  refine V_iload_n dX2_worthOf_0 rfl ?_
  refine V_if_lt 19 dX2_worthOf_1 (by decide) (fun h1 => ?_) (fun h1 => ?_)
  · skip
    refine V_iconst (v := -1) dX2_worthOf_19 (by decide) ?_
    refine V_iret dX2_worthOf_20 rfl (by decide) (by decide) ?_
    exact ⟨by rw [at10, if_pos h1], rfl⟩
  · skip
    refine V_iload_n dX2_worthOf_4 rfl ?_
    refine V_bipush (v := 10) dX2_worthOf_5 (by decide) ?_
    refine V_icmp_ge 19 dX2_worthOf_7 (by decide) (fun h7 => ?_) (fun h7 => ?_)
    · skip
      refine V_iconst (v := -1) dX2_worthOf_19 (by decide) ?_
      refine V_iret dX2_worthOf_20 rfl (by decide) (by decide) ?_
      exact ⟨by rw [at10, if_neg h1, if_pos h7], rfl⟩
    · skip
      refine V_aload_n dX2_worthOf_10 rfl ?_
      refine V_get (b) fl_X2_15 dX2_worthOf_11 (hw.o0 hb) rfl ?_
      refine V_iload_n dX2_worthOf_14 rfl ?_
      refine V_iald (b + 2) dX2_worthOf_15 (hw.o2 hb) (in_of (n := 10) (by decide) h1 h7) ?_
      refine V_goto 20 dX2_worthOf_16 (by decide) ?_
      refine V_iret dX2_worthOf_20 rfl (by decide) (by decide) ?_
      exact ⟨by rw [at10, if_neg h1, if_neg h7], rfl⟩
set_option maxHeartbeats 4000000 in
set_option maxRecDepth 20000 in
theorem ct_X2_has (hw : WF E ad el g w0 ws) (hb : b = 2 ∨ b = 5) (p : Int32) : Ct E yX2_has cX2_has 2 (some (.boolean)) 1 0 0 [.ref (ad b), .int p] ws (fun r w => r = some (.int (if at10 (g (b + 1)) p = -1 then 0 else 1)) ∧ w = ws) := by
  refine Ct_of mw_X2_has rfl (Nat.le_of_ble_eq_true rfl) ?_
  refine V_aload_n dX2_has_0 rfl ?_
  refine V_iload_n dX2_has_1 rfl ?_
  refine V_rdV (b) mw_X2_versionOf mv_X2_24 dX2_has_2 (ct_X2_versionOf hw hb p) (hw.o0 hb) rfl rfl rfl (Nat.le_of_ble_eq_true rfl) (by decide) (by decide) (by decide) (by decide) ?_
  refine V_iconst (v := -1) dX2_has_5 (by decide) ?_
  refine V_icmp_eq 13 dX2_has_6 (by decide) (fun h6 => ?_) (fun h6 => ?_)
  · skip
    refine V_iconst (v := 0) dX2_has_13 (by decide) ?_
    refine V_zret dX2_has_14 rfl (by first | exact Or.inl rfl | exact Or.inr rfl) (by decide) (by decide) ?_
    exact ⟨by rw [if_pos h6], rfl⟩
  · skip
    refine V_iconst (v := 1) dX2_has_9 (by decide) ?_
    refine V_goto 14 dX2_has_10 (by decide) ?_
    refine V_zret dX2_has_14 rfl (by first | exact Or.inl rfl | exact Or.inr rfl) (by decide) (by decide) ?_
    exact ⟨by rw [if_neg h6], rfl⟩
set_option maxHeartbeats 4000000 in
set_option maxRecDepth 20000 in
theorem ct_X2_put (hw : Wd E ad el g ws) (hb : b = 2 ∨ b = 5) (p v u : Int32) : Ct E yX2_put cX2_put 4 none 0 0 0 [.ref (ad b), .int p, .int v, .int u] ws (fun r w => r = none ∧ WF E ad el (put10 g b p v u) ws w) := by
  refine Ct_of mw_X2_put rfl (Nat.le_of_ble_eq_true rfl) ?_
  have hw := WF.rf hw
  refine V_iload_n dX2_put_0 rfl ?_
  refine V_if_lt 24 dX2_put_1 (by decide) (fun h1 => ?_) (fun h1 => ?_)
  · skip
    refine V_vret dX2_put_24 rfl (by decide) (by decide) ?_
    exact ⟨rfl, by rw [put10, if_pos h1]; exact hw⟩
  · skip
    refine V_iload_n dX2_put_4 rfl ?_
    refine V_bipush (v := 10) dX2_put_5 (by decide) ?_
    refine V_icmp_ge 24 dX2_put_7 (by decide) (fun h7 => ?_) (fun h7 => ?_)
    · skip
      refine V_vret dX2_put_24 rfl (by decide) (by decide) ?_
      exact ⟨rfl, by rw [put10, if_neg h1, if_pos h7]; exact hw⟩
    · skip
      refine V_aload_n dX2_put_10 rfl ?_
      refine V_get (b) fl_X2_9 dX2_put_11 (hw.o0 hb) rfl ?_
      refine V_iload_n dX2_put_14 rfl ?_
      refine V_iload_n dX2_put_15 rfl ?_
      refine W_iast (b + 1) hw (by omega) (o_c1 hb) dX2_put_16 (in_of (n := 10) (by decide) h1 h7) (fun ws1 hw1 => ?_)
      refine V_aload_n dX2_put_17 rfl ?_
      refine V_get (b) fl_X2_15 dX2_put_18 (hw1.o0 hb) rfl ?_
      refine V_iload_n dX2_put_21 rfl ?_
      refine V_iload_n dX2_put_22 rfl ?_
      refine W_iast (b + 2) hw1 (by omega) (o_c2 hb) dX2_put_23 (in_of (n := 10) (by decide) h1 h7) (fun ws2 hw2 => ?_)
      refine V_vret dX2_put_24 rfl (by decide) (by decide) ?_
      rw [va_up_ne (j := b + 2) _ _ (by omega)] at hw2
      exact ⟨rfl, by rw [put10, if_neg h1, if_neg h7]; exact hw2⟩
set_option maxHeartbeats 4000000 in
set_option maxRecDepth 20000 in
theorem ct_X2_drop (hw : Wd E ad el g ws) (hb : b = 2 ∨ b = 5) (p : Int32) : Ct E yX2_drop cX2_drop 2 none 1 0 0 [.ref (ad b), .int p] ws (fun r w => r = none ∧ WF E ad el (put10 g b p (-1) (-1)) ws w) := by
  refine Ct_of mw_X2_drop rfl (Nat.le_of_ble_eq_true rfl) ?_
  have hw := WF.rf hw
  refine V_aload_n dX2_drop_0 rfl ?_
  refine V_iload_n dX2_drop_1 rfl ?_
  refine V_iconst (v := -1) dX2_drop_2 (by decide) ?_
  refine V_iconst (v := -1) dX2_drop_3 (by decide) ?_
  refine V_callV (b) mw_X2_put mv_X2_28 dX2_drop_4 (ct_X2_put hw.1 hb p (-1) (-1)) (hw.o0 hb) rfl rfl rfl (Nat.le_of_ble_eq_true rfl) (by decide) (by decide) (by decide) (by decide) (fun r4 ws1 hp4 => ?_)
  obtain ⟨rfl, hw1⟩ := hp4
  refine V_vret dX2_drop_7 rfl (by decide) (by decide) ?_
  exact ⟨rfl, hw1⟩
set_option maxHeartbeats 4000000 in
set_option maxRecDepth 20000 in
theorem lp_X2_mask (hw : WF E ad el g w0 ws) (hb : b = 2 ∨ b = 5)  : ∀ (n p : Nat) (m x : Int32), p ≤ 10 → 10 < p + n → m = nI (maskN (g (b + 1)) p) → x = nI p → V E yX2_mask cX2_mask 3 (some (.int)) 0 0 0 (fun r w => r = some (.int (nI (maskN (g (b + 1)) 10))) ∧ w = ws) 4 [some (.ref (ad b)), some (.int m), some (.int x)] [] ws 0 0 := by
  intro n
  induction n with
  | zero => intro p m x h1 h2; exact absurd h2 (by omega)
  | succ n ih =>
    intro p m x hpl hpn hm hx
    subst hm hx
    refine V_iload_n dX2_mask_4 rfl ?_
    refine V_bipush (v := 10) dX2_mask_5 (by decide) ?_
    refine V_icmp_ge 32 dX2_mask_7 (by decide) (fun h7 => ?_) (fun h7 => ?_)
    · skip
      refine V_iload_n dX2_mask_32 rfl ?_
      refine V_iret dX2_mask_33 rfl (by decide) (by decide) ?_
      have hp10 : p = 10 := by have := leK (a := 10) (by decide) (by omega) h7; omega
      subst hp10
      exact ⟨rfl, rfl⟩
    · skip
      have hp := nleK (a := 10) (by decide) (by omega) h7
      refine V_aload_n dX2_mask_10 rfl ?_
      refine V_get (b) fl_X2_9 dX2_mask_11 (hw.o0 hb) rfl ?_
      refine V_iload_n dX2_mask_14 rfl ?_
      refine V_iald (b + 1) dX2_mask_15 (hw.o1 hb) (vp_in_nI (by have := nleK (a := 10) (by decide) (by omega) h7; omega) (by decide)) ?_
      rw [nI_clamp (n := p) (by omega)]
      refine V_iconst (v := -1) dX2_mask_16 (by decide) ?_
      refine V_icmp_eq 26 dX2_mask_17 (by decide) (fun h17 => ?_) (fun h17 => ?_)
      · skip
        refine V_iinc dX2_mask_26 rfl rfl (by decide) ?_
        refine V_goto 4 dX2_mask_29 (by decide) ?_
        exact ih (p + 1) _ _ (by omega) (by omega) (by rw [maskN, if_pos h17]) (nI_1 p)
      · skip
        refine V_iload_n dX2_mask_20 rfl ?_
        refine V_iconst (v := 1) dX2_mask_21 (by decide) ?_
        refine V_iload_n dX2_mask_22 rfl ?_
        refine V_ishl dX2_mask_23 ?_
        refine V_ior dX2_mask_24 ?_
        refine V_istore_n dX2_mask_25 (by decide) ?_
        refine V_iinc dX2_mask_26 rfl rfl (by decide) ?_
        refine V_goto 4 dX2_mask_29 (by decide) ?_
        exact ih (p + 1) _ _ (by omega) (by omega) (by rw [maskN, if_neg h17, shl1 p (by omega), nx_or]) (nI_1 p)
set_option maxHeartbeats 4000000 in
set_option maxRecDepth 20000 in
theorem ct_X2_mask (hw : WF E ad el g w0 ws) (hb : b = 2 ∨ b = 5)  : Ct E yX2_mask cX2_mask 3 (some (.int)) 0 0 0 [.ref (ad b)] ws (fun r w => r = some (.int (nI (maskN (g (b + 1)) 10))) ∧ w = ws) := by
  refine Ct_of mw_X2_mask rfl (Nat.le_of_ble_eq_true rfl) ?_
  refine V_iconst (v := 0) dX2_mask_0 (by decide) ?_
  refine V_istore_n dX2_mask_1 (by decide) ?_
  refine V_iconst (v := 0) dX2_mask_2 (by decide) ?_
  refine V_istore_n dX2_mask_3 (by decide) ?_
  exact lp_X2_mask hw hb 11 0 _ _ (by decide) (by decide) rfl rfl
set_option maxHeartbeats 4000000 in
set_option maxRecDepth 20000 in
theorem lp_X2_sum (hw : WF E ad el g w0 ws) (hb : b = 2 ∨ b = 5) (S : Nat) (hS : S < 1024)  : ∀ (n p : Nat) (m x : Int32), p ≤ 10 → 10 < p + n → m = sumI (g (b + 2)) S p → x = nI p → V E yX2_sum cX2_sum 4 (some (.int)) 0 0 0 (fun r w => r = some (.int (sumI (g (b + 2)) S 10)) ∧ w = ws) 4 [some (.ref (ad b)), some (.int (nI S)), some (.int m), some (.int x)] [] ws 0 0 := by
  intro n
  induction n with
  | zero => intro p m x h1 h2; exact absurd h2 (by omega)
  | succ n ih =>
    intro p m x hpl hpn hm hx
    subst hm hx
    refine V_iload_n dX2_sum_4 rfl ?_
    refine V_bipush (v := 10) dX2_sum_5 (by decide) ?_
    refine V_icmp_ge 33 dX2_sum_7 (by decide) (fun h7 => ?_) (fun h7 => ?_)
    · skip
      refine V_iload_n dX2_sum_33 rfl ?_
      refine V_iret dX2_sum_34 rfl (by decide) (by decide) ?_
      have hp10 : p = 10 := by have := leK (a := 10) (by decide) (by omega) h7; omega
      subst hp10
      exact ⟨rfl, rfl⟩
    · skip
      have hp := nleK (a := 10) (by decide) (by omega) h7
      refine V_iload_n dX2_sum_10 rfl ?_
      refine V_iload_n dX2_sum_11 rfl ?_
      refine V_ishr dX2_sum_12 ?_
      refine V_iconst (v := 1) dX2_sum_13 (by decide) ?_
      refine V_iand dX2_sum_14 ?_
      refine V_if_eq 27 dX2_sum_15 (by decide) (fun h15 => ?_) (fun h15 => ?_)
      · skip
        refine V_iinc dX2_sum_27 rfl rfl (by decide) ?_
        refine V_goto 4 dX2_sum_30 (by decide) ?_
        have hb2 := bitAt_eq (by omega) (by omega) h15
        exact ih (p + 1) _ _ (by omega) (by omega) (by rw [sumI, if_neg (by simp [hb2])]) (nI_1 p)
      · skip
        refine V_iload_n dX2_sum_18 rfl ?_
        refine V_aload_n dX2_sum_19 rfl ?_
        refine V_get (b) fl_X2_15 dX2_sum_20 (hw.o0 hb) rfl ?_
        refine V_iload_n dX2_sum_23 rfl ?_
        refine V_iald (b + 2) dX2_sum_24 (hw.o2 hb) (vp_in_nI (by have := nleK (a := 10) (by decide) (by omega) h7; omega) (by decide)) ?_
        rw [nI_clamp (n := p) (by omega)]
        refine V_iadd dX2_sum_25 ?_
        refine V_istore_n dX2_sum_26 (by decide) ?_
        refine V_iinc dX2_sum_27 rfl rfl (by decide) ?_
        refine V_goto 4 dX2_sum_30 (by decide) ?_
        have hb2 := bitAt_ne (by omega) (by omega) h15
        exact ih (p + 1) _ _ (by omega) (by omega) (by rw [sumI, if_pos hb2]) (nI_1 p)
set_option maxHeartbeats 4000000 in
set_option maxRecDepth 20000 in
theorem ct_X2_sum (hw : WF E ad el g w0 ws) (hb : b = 2 ∨ b = 5) (S : Nat) (hS : S < 1024)  : Ct E yX2_sum cX2_sum 4 (some (.int)) 0 0 0 [.ref (ad b), .int (nI S)] ws (fun r w => r = some (.int (sumI (g (b + 2)) S 10)) ∧ w = ws) := by
  refine Ct_of mw_X2_sum rfl (Nat.le_of_ble_eq_true rfl) ?_
  refine V_iconst (v := 0) dX2_sum_0 (by decide) ?_
  refine V_istore_n dX2_sum_1 (by decide) ?_
  refine V_iconst (v := 0) dX2_sum_2 (by decide) ?_
  refine V_istore_n dX2_sum_3 (by decide) ?_
  exact lp_X2_sum hw hb S hS 11 0 _ _ (by decide) (by decide) rfl rfl
end OFF
end
section
/-! ===== Tests (16, 17), OneWays (21 .. 23) ===== -/
theorem fi_step {P : Nat → Bool} {n i : Nat} (h : i < n) : fi P (n - i) i = if P i = true then nI i else fi P (n - (i + 1)) (i + 1) := by rw [show n - i = (n - (i + 1)) + 1 by omega, fi]
theorem fi_end {P : Nat → Bool} {n i : Nat} (h : n ≤ i) : fi P (n - i) i = -1 := by rw [Nat.sub_eq_zero_of_le h]; rfl
/-- the test that is red with a set -/
def pRed (f : Nat → Int32) (set : Int32) (i : Nat) : Bool := decide (f i &&& (set ^^^ -1) = 0)
def pWay (f h : Nat → Int32) (p v : Int32) (i : Nat) : Bool := decide (f i = p) && decide (h i = v)
def addTest (g : Nat → Nat → Int32) (set : Int32) : Nat → Nat → Int32 := va_up (va_up g 17 (upd (g 17) (g 16 1).toNatClampNeg set)) 16 (upd (g 16) 1 (g 16 1 + 1))
def addWay (g : Nat → Nat → Int32) (p v : Int32) : Nat → Nat → Int32 := va_up (va_up (va_up g 22 (upd (g 22) (g 21 2).toNatClampNeg p)) 23 (upd (g 23) (g 21 2).toNatClampNeg v)) 21 (upd (g 21) 2 (g 21 2 + 1))
def delWay (g : Nat → Nat → Int32) (i : Nat) : Nat → Nat → Int32 := va_up (va_up (va_up g 21 (upd (g 21) 2 (g 21 2 - 1))) 22 (upd (g 22) i (g 22 (g 21 2 - 1).toNatClampNeg))) 23 (upd (g 23) i (g 23 (g 21 2 - 1).toNatClampNeg))
section SML
variable {E : VE} {ad : Nat → Nat} {el : Nat} {g : Nat → Nat → Int32} {w0 ws : va_W}
set_option maxHeartbeats 4000000 in
set_option maxRecDepth 20000 in
theorem ct_X5_add (hw : Wd E ad el g ws) (hin : g 16 1 < 12 → vp_in (g 16 1) 12) (set : Int32) : Ct E yX5_add cX5_add 2 (some (.int)) 0 0 0 [.ref (ad 16), .int set] ws (fun r w => r = some (.int (if g 16 1 < 12 then g 16 1 + 1 - 1 else -1)) ∧ WF E ad el (if g 16 1 < 12 then addTest g set else g) ws w) := by
  refine Ct_of mw_X5_add rfl (Nat.le_of_ble_eq_true rfl) ?_
  have hw := WF.rf hw
  refine V_aload_n dX5_add_0 rfl ?_
  refine V_get (16) fl_X5_15 dX5_add_1 hw.p16 rfl ?_
  refine V_bipush (v := 12) dX5_add_4 (by decide) ?_
  refine V_icmp_lt 11 dX5_add_6 (by decide) (fun h6 => ?_) (fun h6 => ?_)
  · skip
    refine V_aload_n dX5_add_11 rfl ?_
    refine V_get (16) fl_X5_9 dX5_add_12 hw.p16 rfl ?_
    refine V_aload_n dX5_add_15 rfl ?_
    refine V_get (16) fl_X5_15 dX5_add_16 hw.p16 rfl ?_
    refine V_iload_n dX5_add_19 rfl ?_
    refine W_iast (17) hw (by decide) (fun _ => rfl) dX5_add_20 (hin h6) (fun ws1 hw1 => ?_)
    refine V_aload_n dX5_add_21 rfl ?_
    refine V_dup dX5_add_22 rfl ?_
    refine V_get (16) fl_X5_15 dX5_add_23 hw1.p16 rfl ?_
    refine V_iconst (v := 1) dX5_add_26 (by decide) ?_
    refine V_iadd dX5_add_27 ?_
    refine W_put (16) hw1 (by decide) fp_X5_15 dX5_add_28 rfl rfl rfl rfl (Nat.le_of_ble_eq_true rfl) (fun ws2 hw2 => ?_)
    refine V_aload_n dX5_add_31 rfl ?_
    refine V_get (16) fl_X5_15 dX5_add_32 hw2.p16 rfl ?_
    refine V_iconst (v := 1) dX5_add_35 (by decide) ?_
    refine V_isub dX5_add_36 ?_
    refine V_iret dX5_add_37 rfl (by decide) (by decide) ?_
    exact ⟨by rw [if_pos h6]; rfl, by rw [if_pos h6]; exact hw2⟩
  · skip
    refine V_iconst (v := -1) dX5_add_9 (by decide) ?_
    refine V_iret dX5_add_10 rfl (by decide) (by decide) ?_
    exact ⟨by rw [if_neg h6], by rw [if_neg h6]; exact hw⟩
set_option maxHeartbeats 4000000 in
set_option maxRecDepth 20000 in
theorem lp_X5_firstRed (hw : WF E ad el g w0 ws) (set : Int32) {n : Nat} (hn : g 16 1 = nI n) (hN : n ≤ 12) : ∀ (k i : Nat) (x : Int32), i ≤ n → n < i + k → x = nI i → fi (pRed (g 17) set) n 0 = fi (pRed (g 17) set) (n - i) i → V E yX5_firstRed cX5_firstRed 3 (some (.int)) 0 0 0 (fun r w => r = some (.int (fi (pRed (g 17) set) n 0)) ∧ w = ws) 2 [some (.ref (ad 16)), some (.int set), some (.int x)] [] ws 0 0 := by
  intro k
  induction k with
  | zero => intro i x h1 h2; exact absurd h2 (by omega)
  | succ k ih =>
    intro i x hil hin hx hinv
    subst hx
    refine V_iload_n dX5_firstRed_2 rfl ?_
    refine V_aload_n dX5_firstRed_3 rfl ?_
    refine V_get (16) fl_X5_15 dX5_firstRed_4 hw.p16 rfl ?_
    refine V_icmp_ge 31 dX5_firstRed_7 (by decide) (fun h7 => ?_) (fun h7 => ?_)
    · skip
      refine V_iconst (v := -1) dX5_firstRed_31 (by decide) ?_
      refine V_iret dX5_firstRed_32 rfl (by decide) (by decide) ?_
      have hi := leK (a := n) (b := i) (by omega) (by omega) (by rw [← hn]; exact h7)
      exact ⟨by rw [hinv, fi_end hi], rfl⟩
    · skip
      have hi := nleK (a := n) (b := i) (by omega) (by omega) (by rw [← hn]; exact h7)
      refine V_aload_n dX5_firstRed_10 rfl ?_
      refine V_get (16) fl_X5_9 dX5_firstRed_11 hw.p16 rfl ?_
      refine V_iload_n dX5_firstRed_14 rfl ?_
      refine V_iald (17) dX5_firstRed_15 hw.p17 (vp_in_nI (by omega) (by decide)) ?_
      rw [nI_clamp (n := i) (by omega)]
      refine V_iload_n dX5_firstRed_16 rfl ?_
      refine V_iconst (v := -1) dX5_firstRed_17 (by decide) ?_
      refine V_ixor dX5_firstRed_18 ?_
      refine V_iand dX5_firstRed_19 ?_
      refine V_if_ne 25 dX5_firstRed_20 (by decide) (fun h20 => ?_) (fun h20 => ?_)
      · skip
        refine V_iinc dX5_firstRed_25 rfl rfl (by decide) ?_
        refine V_goto 2 dX5_firstRed_28 (by decide) ?_
        exact ih (i + 1) _ (by omega) (by omega) (nI_1 i) (by rw [hinv, fi_step hi, if_neg (by rw [pRed, decide_eq_true_eq]; exact h20)])
      · skip
        refine V_iload_n dX5_firstRed_23 rfl ?_
        refine V_iret dX5_firstRed_24 rfl (by decide) (by decide) ?_
        exact ⟨by rw [hinv, fi_step hi, if_pos (by rw [pRed, decide_eq_true_eq]; exact h20)], rfl⟩
set_option maxHeartbeats 4000000 in
set_option maxRecDepth 20000 in
theorem ct_X5_firstRed (hw : WF E ad el g w0 ws) (set : Int32) {n : Nat} (hn : g 16 1 = nI n) (hN : n ≤ 12) : Ct E yX5_firstRed cX5_firstRed 3 (some (.int)) 0 0 0 [.ref (ad 16), .int set] ws (fun r w => r = some (.int (fi (pRed (g 17) set) n 0)) ∧ w = ws) := by
  refine Ct_of mw_X5_firstRed rfl (Nat.le_of_ble_eq_true rfl) ?_
  refine V_iconst (v := 0) dX5_firstRed_0 (by decide) ?_
  refine V_istore_n dX5_firstRed_1 (by decide) ?_
  exact lp_X5_firstRed hw set hn hN (n + 1) 0 _ (Nat.zero_le _) (by omega) rfl rfl
set_option maxHeartbeats 4000000 in
set_option maxRecDepth 20000 in
theorem lp_X3_find (hw : WF E ad el g w0 ws) (p v : Int32) {n : Nat} (hn : g 21 2 = nI n) (hN : n ≤ 60) : ∀ (k i : Nat) (x : Int32), i ≤ n → n < i + k → x = nI i → fi (pWay (g 22) (g 23) p v) n 0 = fi (pWay (g 22) (g 23) p v) (n - i) i → V E yX3_find cX3_find 4 (some (.int)) 0 0 0 (fun r w => r = some (.int (fi (pWay (g 22) (g 23) p v) n 0)) ∧ w = ws) 2 [some (.ref (ad 21)), some (.int p), some (.int v), some (.int x)] [] ws 0 0 := by
  intro k
  induction k with
  | zero => intro i x h1 h2; exact absurd h2 (by omega)
  | succ k ih =>
    intro i x hil hin hx hinv
    subst hx
    refine V_iload_n dX3_find_2 rfl ?_
    refine V_aload_n dX3_find_3 rfl ?_
    refine V_get (21) fl_X3_18 dX3_find_4 hw.p21 rfl ?_
    refine V_icmp_ge 38 dX3_find_7 (by decide) (fun h7 => ?_) (fun h7 => ?_)
    · skip
      refine V_iconst (v := -1) dX3_find_38 (by decide) ?_
      refine V_iret dX3_find_39 rfl (by decide) (by decide) ?_
      have hi := leK (a := n) (b := i) (by omega) (by omega) (by rw [← hn]; exact h7)
      exact ⟨by rw [hinv, fi_end hi], rfl⟩
    · skip
      have hi := nleK (a := n) (b := i) (by omega) (by omega) (by rw [← hn]; exact h7)
      refine V_aload_n dX3_find_10 rfl ?_
      refine V_get (21) fl_X3_9 dX3_find_11 hw.p21 rfl ?_
      refine V_iload_n dX3_find_14 rfl ?_
      refine V_iald (22) dX3_find_15 hw.p22 (vp_in_nI (by omega) (by decide)) ?_
      rw [nI_clamp (n := i) (by omega)]
      refine V_iload_n dX3_find_16 rfl ?_
      refine V_icmp_ne 32 dX3_find_17 (by decide) (fun h17 => ?_) (fun h17 => ?_)
      · skip
        refine V_iinc dX3_find_32 rfl rfl (by decide) ?_
        refine V_goto 2 dX3_find_35 (by decide) ?_
        exact ih (i + 1) _ (by omega) (by omega) (nI_1 i) (by rw [hinv, fi_step hi, if_neg (by simp [pWay, h17])])
      · skip
        refine V_aload_n dX3_find_20 rfl ?_
        refine V_get (21) fl_X3_15 dX3_find_21 hw.p21 rfl ?_
        refine V_iload_n dX3_find_24 rfl ?_
        refine V_iald (23) dX3_find_25 hw.p23 (vp_in_nI (by omega) (by decide)) ?_
        rw [nI_clamp (n := i) (by omega)]
        refine V_iload_n dX3_find_26 rfl ?_
        refine V_icmp_ne 32 dX3_find_27 (by decide) (fun h27 => ?_) (fun h27 => ?_)
        · skip
          refine V_iinc dX3_find_32 rfl rfl (by decide) ?_
          refine V_goto 2 dX3_find_35 (by decide) ?_
          exact ih (i + 1) _ (by omega) (by omega) (nI_1 i) (by rw [hinv, fi_step hi, if_neg (by simp [pWay, h27])])
        · skip
          refine V_iload_n dX3_find_30 rfl ?_
          refine V_iret dX3_find_31 rfl (by decide) (by decide) ?_
          exact ⟨by rw [hinv, fi_step hi, if_pos (by simp [pWay, h17, h27])], rfl⟩
set_option maxHeartbeats 4000000 in
set_option maxRecDepth 20000 in
theorem ct_X3_find (hw : WF E ad el g w0 ws) (p v : Int32) {n : Nat} (hn : g 21 2 = nI n) (hN : n ≤ 60) : Ct E yX3_find cX3_find 4 (some (.int)) 0 0 0 [.ref (ad 21), .int p, .int v] ws (fun r w => r = some (.int (fi (pWay (g 22) (g 23) p v) n 0)) ∧ w = ws) := by
  refine Ct_of mw_X3_find rfl (Nat.le_of_ble_eq_true rfl) ?_
  refine V_iconst (v := 0) dX3_find_0 (by decide) ?_
  refine V_istore_n dX3_find_1 (by decide) ?_
  exact lp_X3_find hw p v hn hN (n + 1) 0 _ (Nat.zero_le _) (by omega) rfl rfl
set_option maxHeartbeats 4000000 in
set_option maxRecDepth 20000 in
theorem ct_X3_add (hw : Wd E ad el g ws) (p v : Int32) {n : Nat} (hn : g 21 2 = nI n) (hN : n ≤ 60) : Ct E yX3_add cX3_add 3 (some (.boolean)) 1 0 0 [.ref (ad 21), .int p, .int v] ws (fun r w => r = some (.int (if 60 ≤ g 21 2 then 0 else if fi (pWay (g 22) (g 23) p v) n 0 = -1 then 1 else 0)) ∧ WF E ad el (if 60 ≤ g 21 2 then g else if fi (pWay (g 22) (g 23) p v) n 0 = -1 then addWay g p v else g) ws w) := by
  refine Ct_of mw_X3_add rfl (Nat.le_of_ble_eq_true rfl) ?_
  have hw := WF.rf hw
  refine V_aload_n dX3_add_0 rfl ?_
  refine V_get (21) fl_X3_18 dX3_add_1 hw.p21 rfl ?_
  refine V_bipush (v := 60) dX3_add_4 (by decide) ?_
  refine V_icmp_ge 19 dX3_add_6 (by decide) (fun h6 => ?_) (fun h6 => ?_)
  · skip
    refine V_iconst (v := 0) dX3_add_19 (by decide) ?_
    refine V_zret dX3_add_20 rfl (by first | exact Or.inl rfl | exact Or.inr rfl) (by decide) (by decide) ?_
    exact ⟨by rw [if_pos h6], by rw [if_pos h6]; exact hw⟩
  · skip
    have hin : vp_in (g 21 2) 60 := by rw [hn]; exact vp_in_nI (nleK (a := 60) (b := n) (by decide) (by omega) (by rw [← hn]; exact h6)) (by decide)
    refine V_aload_n dX3_add_9 rfl ?_
    refine V_iload_n dX3_add_10 rfl ?_
    refine V_iload_n dX3_add_11 rfl ?_
    refine V_rdV (21) mw_X3_find mv_X3_22 dX3_add_12 (ct_X3_find hw p v hn hN) hw.p21 rfl rfl rfl (Nat.le_of_ble_eq_true rfl) (by decide) (by decide) (by decide) (by decide) ?_
    refine V_iconst (v := -1) dX3_add_15 (by decide) ?_
    refine V_icmp_eq 21 dX3_add_16 (by decide) (fun h16 => ?_) (fun h16 => ?_)
    · skip
      refine V_aload_n dX3_add_21 rfl ?_
      refine V_get (21) fl_X3_9 dX3_add_22 hw.p21 rfl ?_
      refine V_aload_n dX3_add_25 rfl ?_
      refine V_get (21) fl_X3_18 dX3_add_26 hw.p21 rfl ?_
      refine V_iload_n dX3_add_29 rfl ?_
      refine W_iast (22) hw (by decide) (fun _ => rfl) dX3_add_30 hin (fun ws1 hw1 => ?_)
      refine V_aload_n dX3_add_31 rfl ?_
      refine V_get (21) fl_X3_15 dX3_add_32 hw1.p21 rfl ?_
      refine V_aload_n dX3_add_35 rfl ?_
      refine V_get (21) fl_X3_18 dX3_add_36 hw1.p21 rfl ?_
      refine V_iload_n dX3_add_39 rfl ?_
      refine W_iast (23) hw1 (by decide) (fun _ => rfl) dX3_add_40 hin (fun ws2 hw2 => ?_)
      refine V_aload_n dX3_add_41 rfl ?_
      refine V_dup dX3_add_42 rfl ?_
      refine V_get (21) fl_X3_18 dX3_add_43 hw2.p21 rfl ?_
      refine V_iconst (v := 1) dX3_add_46 (by decide) ?_
      refine V_iadd dX3_add_47 ?_
      refine W_put (21) hw2 (by decide) fp_X3_18 dX3_add_48 rfl rfl rfl rfl (Nat.le_of_ble_eq_true rfl) (fun ws3 hw3 => ?_)
      refine V_iconst (v := 1) dX3_add_51 (by decide) ?_
      refine V_zret dX3_add_52 rfl (by first | exact Or.inl rfl | exact Or.inr rfl) (by decide) (by decide) ?_
      exact ⟨by rw [if_neg h6, if_pos h16], by rw [if_neg h6, if_pos h16]; exact hw3⟩
    · skip
      refine V_iconst (v := 0) dX3_add_19 (by decide) ?_
      refine V_zret dX3_add_20 rfl (by first | exact Or.inl rfl | exact Or.inr rfl) (by decide) (by decide) ?_
      exact ⟨by rw [if_neg h6, if_neg h16], by rw [if_neg h6, if_neg h16]; exact hw⟩
set_option maxHeartbeats 4000000 in
set_option maxRecDepth 20000 in
theorem ct_X3_remove (hw : Wd E ad el g ws) (p v : Int32) {n : Nat} (hn : g 21 2 = nI n) (hN : n ≤ 60) : Ct E yX3_remove cX3_remove 4 (some (.boolean)) 1 0 0 [.ref (ad 21), .int p, .int v] ws (fun r w => r = some (.int (if fi (pWay (g 22) (g 23) p v) n 0 = -1 then 0 else 1)) ∧ WF E ad el (if fi (pWay (g 22) (g 23) p v) n 0 = -1 then g else delWay g (fi (pWay (g 22) (g 23) p v) n 0).toNatClampNeg) ws w) := by
  refine Ct_of mw_X3_remove rfl (Nat.le_of_ble_eq_true rfl) ?_
  have hw := WF.rf hw
  refine V_aload_n dX3_remove_0 rfl ?_
  refine V_iload_n dX3_remove_1 rfl ?_
  refine V_iload_n dX3_remove_2 rfl ?_
  refine V_rdV (21) mw_X3_find mv_X3_22 dX3_remove_3 (ct_X3_find hw p v hn hN) hw.p21 rfl rfl rfl (Nat.le_of_ble_eq_true rfl) (by decide) (by decide) (by decide) (by decide) ?_
  refine V_istore_n dX3_remove_6 (by decide) ?_
  refine V_iload_n dX3_remove_7 rfl ?_
  refine V_iconst (v := -1) dX3_remove_8 (by decide) ?_
  refine V_icmp_ne 14 dX3_remove_9 (by decide) (fun h9 => ?_) (fun h9 => ?_)
  · skip
    obtain ⟨j, -, hj, -, ej⟩ : ∃ j, 0 ≤ j ∧ j < 0 + n ∧ pWay (g 22) (g 23) p v j = true ∧ fi (pWay (g 22) (g 23) p v) n 0 = nI j := by
      rcases fi_some (P := pWay (g 22) (g 23) p v) n 0 with h | h
      · exact absurd h h9
      · exact h
    have hin1 : vp_in (fi (pWay (g 22) (g 23) p v) n 0) 60 := by rw [ej]; exact vp_in_nI (by omega) (by decide)
    have hin2 : vp_in (g 21 2 - 1) 60 := by rw [hn, show n = (n - 1) + 1 by omega, nI_pred]; exact vp_in_nI (by omega) (by decide)
    refine V_aload_n dX3_remove_14 rfl ?_
    refine V_dup dX3_remove_15 rfl ?_
    refine V_get (21) fl_X3_18 dX3_remove_16 hw.p21 rfl ?_
    refine V_iconst (v := 1) dX3_remove_19 (by decide) ?_
    refine V_isub dX3_remove_20 ?_
    refine W_put (21) hw (by decide) fp_X3_18 dX3_remove_21 rfl rfl rfl rfl (Nat.le_of_ble_eq_true rfl) (fun ws1 hw1 => ?_)
    refine V_aload_n dX3_remove_24 rfl ?_
    refine V_get (21) fl_X3_9 dX3_remove_25 hw1.p21 rfl ?_
    refine V_iload_n dX3_remove_28 rfl ?_
    refine V_aload_n dX3_remove_29 rfl ?_
    refine V_get (21) fl_X3_9 dX3_remove_30 hw1.p21 rfl ?_
    refine V_aload_n dX3_remove_33 rfl ?_
    refine V_get (21) fl_X3_18 dX3_remove_34 hw1.p21 rfl ?_
    refine V_iald (22) dX3_remove_37 hw1.p22 hin2 ?_
    refine W_iast (22) hw1 (by decide) (fun _ => rfl) dX3_remove_38 hin1 (fun ws2 hw2 => ?_)
    refine V_aload_n dX3_remove_39 rfl ?_
    refine V_get (21) fl_X3_15 dX3_remove_40 hw2.p21 rfl ?_
    refine V_iload_n dX3_remove_43 rfl ?_
    refine V_aload_n dX3_remove_44 rfl ?_
    refine V_get (21) fl_X3_15 dX3_remove_45 hw2.p21 rfl ?_
    refine V_aload_n dX3_remove_48 rfl ?_
    refine V_get (21) fl_X3_18 dX3_remove_49 hw2.p21 rfl ?_
    refine V_iald (23) dX3_remove_52 hw2.p23 hin2 ?_
    refine W_iast (23) hw2 (by decide) (fun _ => rfl) dX3_remove_53 hin1 (fun ws3 hw3 => ?_)
    refine V_iconst (v := 1) dX3_remove_54 (by decide) ?_
    refine V_zret dX3_remove_55 rfl (by first | exact Or.inl rfl | exact Or.inr rfl) (by decide) (by decide) ?_
    exact ⟨by rw [if_neg h9], by rw [if_neg h9]; exact hw3⟩
  · skip
    refine V_iconst (v := 0) dX3_remove_12 (by decide) ?_
    refine V_zret dX3_remove_13 rfl (by first | exact Or.inl rfl | exact Or.inr rfl) (by decide) (by decide) ?_
    exact ⟨by rw [if_pos h9], by rw [if_pos h9]; exact hw⟩
end SML
end
section
/-! ===== Needs (8 .. 15) ===== -/
/-- need k holds with the other part at version v -/
def hold (g : Nat → Nat → Int32) (k : Nat) (v : Int32) : Bool := !decide (v < g 12 k) && !decide (g 13 k < v)
def wSet (g : Nat → Nat → Int32) (k : Nat) (a b : Int32) : Nat → Nat → Int32 := va_up (va_up g 14 (upd (g 14) k a)) 15 (upd (g 15) k b)
def wAsk (p o : Nat) (b6 b7 b8 b9 : Bool) : Nat := if (!b6 && !b7 || b8 && b9) = true then 0 else (if b6 = b7 then 0 else 2 ^ p) ||| (if b8 = b9 then 0 else 2 ^ o)
def wBrk (p o : Nat) (b6 b7 b8 b9 : Bool) : Nat := if (!b6 && !b7 || b8 && b9) = true then 1 else (if b6 = b7 then 0 else if b7 = true then 2 ^ p else 0) ||| (if b8 = b9 then 0 else if b8 = true then 2 ^ o else 0)
theorem wSet_14 (g : Nat → Nat → Int32) (k : Nat) (a b a2 : Int32) : va_up (wSet g k a b) 14 (upd ((wSet g k a b) 14) k a2) = wSet g k a2 b := by
  show va_up (va_up (va_up g 14 (upd (g 14) k a)) 15 (upd (g 15) k b)) 14 (upd (upd (g 14) k a) k a2) = _
  rw [upd_upd, va_up_sw _ (show (14 : Nat) ≠ 15 by decide), va_up_up, va_up_sw _ (show (15 : Nat) ≠ 14 by decide)]
  rfl
theorem wSet_15 (g : Nat → Nat → Int32) (k : Nat) (a b b2 : Int32) : va_up (wSet g k a b) 15 (upd ((wSet g k a b) 15) k b2) = wSet g k a b2 := by
  show va_up (va_up (va_up g 14 (upd (g 14) k a)) 15 (upd (g 15) k b)) 15 (upd (upd (g 15) k b) k b2) = _
  rw [upd_upd, va_up_up]
  rfl
theorem wSet_a (g : Nat → Nat → Int32) (k : Nat) (a b : Int32) : wSet g k a b 14 k = a := pk_us
theorem wSet_b (g : Nat → Nat → Int32) (k : Nat) (a b : Int32) : wSet g k a b 15 k = b := pk_us
def addNeed (g : Nat → Nat → Int32) (p v o lo hi : Int32) : Nat → Nat → Int32 := va_up (va_up (va_up (va_up (va_up (va_up g 9 (upd (g 9) (g 8 7).toNatClampNeg p)) 10 (upd (g 10) (g 8 7).toNatClampNeg v)) 11 (upd (g 11) (g 8 7).toNatClampNeg o)) 12 (upd (g 12) (g 8 7).toNatClampNeg lo)) 13 (upd (g 13) (g 8 7).toNatClampNeg hi)) 8 (upd (g 8) 7 (g 8 7 + 1))
def pBrk (fa fb : Nat → Int32) (set : Int32) (i : Nat) : Bool := decide (set &&& fa i = fb i)
section NDS
variable {E : VE} {ad : Nat → Nat} {el : Nat} {g : Nat → Nat → Int32} {w0 ws : va_W}
set_option maxHeartbeats 4000000 in
set_option maxRecDepth 20000 in
theorem ct_X1_holds (hw : WF E ad el g w0 ws) {k : Nat} (hk : k < 30) (v : Int32) : Ct E yX1_holds cX1_holds 3 (some (.boolean)) 0 0 0 [.ref (ad 8), .int (nI k), .int v] ws (fun r w => r = some (.int (bI (hold g k v))) ∧ w = ws) := by
  refine Ct_of mw_X1_holds rfl (Nat.le_of_ble_eq_true rfl) ?_
  refine V_iload_n dX1_holds_0 rfl ?_
  refine V_aload_n dX1_holds_1 rfl ?_
  refine V_get (8) fl_X1_21 dX1_holds_2 hw.p8 rfl ?_
  refine V_iload_n dX1_holds_5 rfl ?_
  refine V_ialdN (12) dX1_holds_6 hw.p12 hk (by decide) ?_
  refine V_icmp_lt 24 dX1_holds_7 (by decide) (fun h7 => ?_) (fun h7 => ?_)
  · skip
    refine V_iconst (v := 0) dX1_holds_24 (by decide) ?_
    refine V_zret dX1_holds_25 rfl (by first | exact Or.inl rfl | exact Or.inr rfl) (by decide) (by decide) ?_
    exact ⟨by simp [hold, bI, h7], rfl⟩
  · skip
    refine V_iload_n dX1_holds_10 rfl ?_
    refine V_aload_n dX1_holds_11 rfl ?_
    refine V_get (8) fl_X1_24 dX1_holds_12 hw.p8 rfl ?_
    refine V_iload_n dX1_holds_15 rfl ?_
    refine V_ialdN (13) dX1_holds_16 hw.p13 hk (by decide) ?_
    refine V_icmp_gt 24 dX1_holds_17 (by decide) (fun h17 => ?_) (fun h17 => ?_)
    · skip
      refine V_iconst (v := 0) dX1_holds_24 (by decide) ?_
      refine V_zret dX1_holds_25 rfl (by first | exact Or.inl rfl | exact Or.inr rfl) (by decide) (by decide) ?_
      exact ⟨by simp [hold, bI, h7, h17], rfl⟩
    · skip
      refine V_iconst (v := 1) dX1_holds_20 (by decide) ?_
      refine V_goto 25 dX1_holds_21 (by decide) ?_
      refine V_zret dX1_holds_25 rfl (by first | exact Or.inl rfl | exact Or.inr rfl) (by decide) (by decide) ?_
      exact ⟨by simp [hold, bI, h7, h17], rfl⟩
set_option maxHeartbeats 4000000 in
set_option maxRecDepth 20000 in
theorem ct_X1_neverBreaks (hw : Wd E ad el g ws) {k : Nat} (hk : k < 30) : Ct E yX1_neverBreaks cX1_neverBreaks 2 none 0 0 0 [.ref (ad 8), .int (nI k)] ws (fun r w => r = none ∧ WF E ad el (wSet g k 0 1) ws w) := by
  refine Ct_of mw_X1_neverBreaks rfl (Nat.le_of_ble_eq_true rfl) ?_
  have hw := WF.rf hw
  refine V_aload_n dX1_neverBreaks_0 rfl ?_
  refine V_get (8) fl_X1_27 dX1_neverBreaks_1 hw.p8 rfl ?_
  refine V_iload_n dX1_neverBreaks_4 rfl ?_
  refine V_iconst (v := 0) dX1_neverBreaks_5 (by decide) ?_
  refine W_iastN (14) hw (by decide) (fun _ => rfl) dX1_neverBreaks_6 hk (by decide) (fun ws1 hw1 => ?_)
  refine V_aload_n dX1_neverBreaks_7 rfl ?_
  refine V_get (8) fl_X1_30 dX1_neverBreaks_8 hw1.p8 rfl ?_
  refine V_iload_n dX1_neverBreaks_11 rfl ?_
  refine V_iconst (v := 1) dX1_neverBreaks_12 (by decide) ?_
  refine W_iastN (15) hw1 (by decide) (fun _ => rfl) dX1_neverBreaks_13 hk (by decide) (fun ws2 hw2 => ?_)
  refine V_vret dX1_neverBreaks_14 rfl (by decide) (by decide) ?_
  exact ⟨rfl, hw2⟩
set_option maxHeartbeats 4000000 in
set_option maxRecDepth 20000 in
theorem ct_X1_add (hw : Wd E ad el g ws) (hin : g 8 7 < 30 → vp_in (g 8 7) 30) (p v o lo hi : Int32) : Ct E yX1_add cX1_add 6 (some (.int)) 0 0 0 [.ref (ad 8), .int p, .int v, .int o, .int lo, .int hi] ws (fun r w => r = some (.int (if g 8 7 < 30 then g 8 7 + 1 - 1 else -1)) ∧ WF E ad el (if g 8 7 < 30 then addNeed g p v o lo hi else g) ws w) := by
  refine Ct_of mw_X1_add rfl (Nat.le_of_ble_eq_true rfl) ?_
  have hw := WF.rf hw
  refine V_aload_n dX1_add_0 rfl ?_
  refine V_get (8) fl_X1_33 dX1_add_1 hw.p8 rfl ?_
  refine V_bipush (v := 30) dX1_add_4 (by decide) ?_
  refine V_icmp_lt 11 dX1_add_6 (by decide) (fun h6 => ?_) (fun h6 => ?_)
  · skip
    refine V_aload_n dX1_add_11 rfl ?_
    refine V_get (8) fl_X1_9 dX1_add_12 hw.p8 rfl ?_
    refine V_aload_n dX1_add_15 rfl ?_
    refine V_get (8) fl_X1_33 dX1_add_16 hw.p8 rfl ?_
    refine V_iload_n dX1_add_19 rfl ?_
    refine W_iast (9) hw (by decide) (fun _ => rfl) dX1_add_20 (hin h6) (fun ws1 hw1 => ?_)
    refine V_aload_n dX1_add_21 rfl ?_
    refine V_get (8) fl_X1_15 dX1_add_22 hw1.p8 rfl ?_
    refine V_aload_n dX1_add_25 rfl ?_
    refine V_get (8) fl_X1_33 dX1_add_26 hw1.p8 rfl ?_
    refine V_iload_n dX1_add_29 rfl ?_
    refine W_iast (10) hw1 (by decide) (fun _ => rfl) dX1_add_30 (hin h6) (fun ws2 hw2 => ?_)
    refine V_aload_n dX1_add_31 rfl ?_
    refine V_get (8) fl_X1_18 dX1_add_32 hw2.p8 rfl ?_
    refine V_aload_n dX1_add_35 rfl ?_
    refine V_get (8) fl_X1_33 dX1_add_36 hw2.p8 rfl ?_
    refine V_iload_n dX1_add_39 rfl ?_
    refine W_iast (11) hw2 (by decide) (fun _ => rfl) dX1_add_40 (hin h6) (fun ws3 hw3 => ?_)
    refine V_aload_n dX1_add_41 rfl ?_
    refine V_get (8) fl_X1_21 dX1_add_42 hw3.p8 rfl ?_
    refine V_aload_n dX1_add_45 rfl ?_
    refine V_get (8) fl_X1_33 dX1_add_46 hw3.p8 rfl ?_
    refine V_iload dX1_add_49 rfl ?_
    refine W_iast (12) hw3 (by decide) (fun _ => rfl) dX1_add_51 (hin h6) (fun ws4 hw4 => ?_)
    refine V_aload_n dX1_add_52 rfl ?_
    refine V_get (8) fl_X1_24 dX1_add_53 hw4.p8 rfl ?_
    refine V_aload_n dX1_add_56 rfl ?_
    refine V_get (8) fl_X1_33 dX1_add_57 hw4.p8 rfl ?_
    refine V_iload dX1_add_60 rfl ?_
    refine W_iast (13) hw4 (by decide) (fun _ => rfl) dX1_add_62 (hin h6) (fun ws5 hw5 => ?_)
    refine V_aload_n dX1_add_63 rfl ?_
    refine V_dup dX1_add_64 rfl ?_
    refine V_get (8) fl_X1_33 dX1_add_65 hw5.p8 rfl ?_
    refine V_iconst (v := 1) dX1_add_68 (by decide) ?_
    refine V_iadd dX1_add_69 ?_
    refine W_put (8) hw5 (by decide) fp_X1_33 dX1_add_70 rfl rfl rfl rfl (Nat.le_of_ble_eq_true rfl) (fun ws6 hw6 => ?_)
    refine V_aload_n dX1_add_73 rfl ?_
    refine V_get (8) fl_X1_33 dX1_add_74 hw6.p8 rfl ?_
    refine V_iconst (v := 1) dX1_add_77 (by decide) ?_
    refine V_isub dX1_add_78 ?_
    refine V_iret dX1_add_79 rfl (by decide) (by decide) ?_
    exact ⟨by rw [if_pos h6]; rfl, by rw [if_pos h6]; exact hw6⟩
  · skip
    refine V_iconst (v := -1) dX1_add_9 (by decide) ?_
    refine V_iret dX1_add_10 rfl (by decide) (by decide) ?_
    exact ⟨by rw [if_neg h6], by rw [if_neg h6]; exact hw⟩
set_option maxHeartbeats 4000000 in
set_option maxRecDepth 20000 in
theorem lp_X1_firstBroken (hw : WF E ad el g w0 ws) (set : Int32) {n : Nat} (hn : g 8 7 = nI n) (hN : n ≤ 30) : ∀ (k i : Nat) (x : Int32), i ≤ n → n < i + k → x = nI i → fi (pBrk (g 14) (g 15) set) n 0 = fi (pBrk (g 14) (g 15) set) (n - i) i → V E yX1_firstBroken cX1_firstBroken 3 (some (.int)) 0 0 0 (fun r w => r = some (.int (fi (pBrk (g 14) (g 15) set) n 0)) ∧ w = ws) 2 [some (.ref (ad 8)), some (.int set), some (.int x)] [] ws 0 0 := by
  intro k
  induction k with
  | zero => intro i x h1 h2; exact absurd h2 (by omega)
  | succ k ih =>
    intro i x hil hin hx hinv
    subst hx
    refine V_iload_n dX1_firstBroken_2 rfl ?_
    refine V_aload_n dX1_firstBroken_3 rfl ?_
    refine V_get (8) fl_X1_33 dX1_firstBroken_4 hw.p8 rfl ?_
    refine V_icmp_ge 35 dX1_firstBroken_7 (by decide) (fun h7 => ?_) (fun h7 => ?_)
    · skip
      refine V_iconst (v := -1) dX1_firstBroken_35 (by decide) ?_
      refine V_iret dX1_firstBroken_36 rfl (by decide) (by decide) ?_
      have hi := leK (a := n) (b := i) (by omega) (by omega) (by rw [← hn]; exact h7)
      exact ⟨by rw [hinv, fi_end hi], rfl⟩
    · skip
      have hi := nleK (a := n) (b := i) (by omega) (by omega) (by rw [← hn]; exact h7)
      have hi30 : i < 30 := by omega
      refine V_iload_n dX1_firstBroken_10 rfl ?_
      refine V_aload_n dX1_firstBroken_11 rfl ?_
      refine V_get (8) fl_X1_27 dX1_firstBroken_12 hw.p8 rfl ?_
      refine V_iload_n dX1_firstBroken_15 rfl ?_
      refine V_ialdN (14) dX1_firstBroken_16 hw.p14 hi30 (by decide) ?_
      refine V_iand dX1_firstBroken_17 ?_
      refine V_aload_n dX1_firstBroken_18 rfl ?_
      refine V_get (8) fl_X1_30 dX1_firstBroken_19 hw.p8 rfl ?_
      refine V_iload_n dX1_firstBroken_22 rfl ?_
      refine V_ialdN (15) dX1_firstBroken_23 hw.p15 hi30 (by decide) ?_
      refine V_icmp_ne 29 dX1_firstBroken_24 (by decide) (fun h24 => ?_) (fun h24 => ?_)
      · skip
        refine V_iinc dX1_firstBroken_29 rfl rfl (by decide) ?_
        refine V_goto 2 dX1_firstBroken_32 (by decide) ?_
        exact ih (i + 1) _ (by omega) (by omega) (nI_1 i) (by rw [hinv, fi_step hi, if_neg (by rw [pBrk, decide_eq_true_eq]; exact h24)])
      · skip
        refine V_iload_n dX1_firstBroken_27 rfl ?_
        refine V_iret dX1_firstBroken_28 rfl (by decide) (by decide) ?_
        exact ⟨by rw [hinv, fi_step hi, if_pos (by rw [pBrk, decide_eq_true_eq]; exact h24)], rfl⟩
set_option maxHeartbeats 4000000 in
set_option maxRecDepth 20000 in
theorem ct_X1_firstBroken (hw : WF E ad el g w0 ws) (set : Int32) {n : Nat} (hn : g 8 7 = nI n) (hN : n ≤ 30) : Ct E yX1_firstBroken cX1_firstBroken 3 (some (.int)) 0 0 0 [.ref (ad 8), .int set] ws (fun r w => r = some (.int (fi (pBrk (g 14) (g 15) set) n 0)) ∧ w = ws) := by
  refine Ct_of mw_X1_firstBroken rfl (Nat.le_of_ble_eq_true rfl) ?_
  refine V_iconst (v := 0) dX1_firstBroken_0 (by decide) ?_
  refine V_istore_n dX1_firstBroken_1 (by decide) ?_
  exact lp_X1_firstBroken hw set hn hN (n + 1) 0 _ (Nat.zero_le _) (by omega) rfl rfl
set_option maxHeartbeats 4000000 in
set_option maxRecDepth 20000 in
theorem wo_D3 {k : Nat} (hk : k < 30) {p o : Nat} (hp : p < 10) (ho : o < 10) (b6 b7 b8 b9 : Bool) (a b : Nat) {G : Nat → Nat → Int32} (hw : WF E ad el (wSet g k (nI a) (nI b)) w0 ws) (hG : wSet g k (nI (a ||| (if b8 = b9 then 0 else 2 ^ o))) (nI (b ||| (if b8 = b9 then 0 else if b8 = true then 2 ^ o else 0))) = G) : V E yX1_weighOne cX1_weighOne 10 none 2 0 0 (fun r w => r = none ∧ WF E ad el G w0 w) 192 [some (.ref (ad 8)), some (.int (nI k)), some (.ref (ad 1)), some (.ref (ad 2)), some (.int (nI p)), some (.int (nI o)), some (.int (bI b6)), some (.int (bI b7)), some (.int (bI b8)), some (.int (bI b9))] [] ws 0 0 := by
  refine V_iload dX1_weighOne_192 rfl ?_
  refine V_iload dX1_weighOne_194 rfl ?_
  refine V_icmp_eq 234 dX1_weighOne_196 (by decide) (fun h196 => ?_) (fun h196 => ?_)
  · skip
    refine V_vret dX1_weighOne_234 rfl (by decide) (by decide) ?_
    have e := bI_inj h196
    exact ⟨rfl, hG ▸ (by rw [if_pos e, if_pos e, Nat.or_zero, Nat.or_zero]; exact hw)⟩
  · skip
    refine V_aload_n dX1_weighOne_199 rfl ?_
    refine V_get (8) fl_X1_27 dX1_weighOne_200 hw.p8 rfl ?_
    refine V_iload_n dX1_weighOne_203 rfl ?_
    refine V_dup2 dX1_weighOne_204 rfl rfl ?_
    refine V_ialdN (14) dX1_weighOne_205 hw.p14 hk (by decide) ?_
    rw [wSet_a]
    refine V_iconst (v := 1) dX1_weighOne_206 (by decide) ?_
    refine V_iload dX1_weighOne_207 rfl ?_
    refine V_ishl dX1_weighOne_209 ?_
    refine V_ior dX1_weighOne_210 ?_
    refine W_iastN (14) hw (by decide) (fun _ => rfl) dX1_weighOne_211 hk (by decide) (fun ws1 hw1 => ?_)
    rw [wSet_14] at hw1
    refine V_aload_n dX1_weighOne_212 rfl ?_
    refine V_get (8) fl_X1_30 dX1_weighOne_213 hw1.p8 rfl ?_
    refine V_iload_n dX1_weighOne_216 rfl ?_
    refine V_dup2 dX1_weighOne_217 rfl rfl ?_
    refine V_ialdN (15) dX1_weighOne_218 hw1.p15 hk (by decide) ?_
    rw [wSet_b]
    refine V_iload dX1_weighOne_219 rfl ?_
    refine V_if_eq 231 dX1_weighOne_221 (by decide) (fun h221 => ?_) (fun h221 => ?_)
    · skip
      refine V_iconst (v := 0) dX1_weighOne_231 (by decide) ?_
      refine V_ior dX1_weighOne_232 ?_
      refine W_iastN (15) hw1 (by decide) (fun _ => rfl) dX1_weighOne_233 hk (by decide) (fun ws2 hw2 => ?_)
      refine V_vret dX1_weighOne_234 rfl (by decide) (by decide) ?_
      have e := bI_ne h196
      have e2 := bI_0 h221
      rw [wSet_15, shl1 o (by omega), nx_or] at hw2
      rw [show nI b ||| (0 : Int32) = nI (b ||| 0) from nx_or b 0] at hw2
      exact ⟨rfl, hG ▸ (by rw [if_neg e, if_neg e, if_neg (by rw [e2]; decide)]; exact hw2)⟩
    · skip
      refine V_iconst (v := 1) dX1_weighOne_224 (by decide) ?_
      refine V_iload dX1_weighOne_225 rfl ?_
      refine V_ishl dX1_weighOne_227 ?_
      refine V_goto 232 dX1_weighOne_228 (by decide) ?_
      refine V_ior dX1_weighOne_232 ?_
      refine W_iastN (15) hw1 (by decide) (fun _ => rfl) dX1_weighOne_233 hk (by decide) (fun ws2 hw2 => ?_)
      refine V_vret dX1_weighOne_234 rfl (by decide) (by decide) ?_
      have e := bI_ne h196
      have e2 := bI_1 h221
      rw [wSet_15, shl1 o (by omega), nx_or, nx_or] at hw2
      exact ⟨rfl, hG ▸ (by rw [if_neg e, if_neg e, if_pos e2]; exact hw2)⟩
set_option maxHeartbeats 4000000 in
set_option maxRecDepth 20000 in
theorem wo_D2 {k : Nat} (hk : k < 30) {p o : Nat} (hp : p < 10) (ho : o < 10) (b6 b7 b8 b9 : Bool) {G : Nat → Nat → Int32} (hw : WF E ad el g w0 ws) (hG : wSet g k (nI ((if b6 = b7 then 0 else 2 ^ p) ||| (if b8 = b9 then 0 else 2 ^ o))) (nI ((if b6 = b7 then 0 else if b7 = true then 2 ^ p else 0) ||| (if b8 = b9 then 0 else if b8 = true then 2 ^ o else 0))) = G) : V E yX1_weighOne cX1_weighOne 10 none 2 0 0 (fun r w => r = none ∧ WF E ad el G w0 w) 136 [some (.ref (ad 8)), some (.int (nI k)), some (.ref (ad 1)), some (.ref (ad 2)), some (.int (nI p)), some (.int (nI o)), some (.int (bI b6)), some (.int (bI b7)), some (.int (bI b8)), some (.int (bI b9))] [] ws 0 0 := by
  refine V_aload_n dX1_weighOne_136 rfl ?_
  refine V_get (8) fl_X1_27 dX1_weighOne_137 hw.p8 rfl ?_
  refine V_iload_n dX1_weighOne_140 rfl ?_
  refine V_iconst (v := 0) dX1_weighOne_141 (by decide) ?_
  refine W_iastN (14) hw (by decide) (fun _ => rfl) dX1_weighOne_142 hk (by decide) (fun ws1 hw1 => ?_)
  refine V_aload_n dX1_weighOne_143 rfl ?_
  refine V_get (8) fl_X1_30 dX1_weighOne_144 hw1.p8 rfl ?_
  refine V_iload_n dX1_weighOne_147 rfl ?_
  refine V_iconst (v := 0) dX1_weighOne_148 (by decide) ?_
  refine W_iastN (15) hw1 (by decide) (fun _ => rfl) dX1_weighOne_149 hk (by decide) (fun ws2 hw2 => ?_)
  have hw2 : WF E ad el (wSet g k (nI 0) (nI 0)) w0 ws2 := hw2
  refine V_iload dX1_weighOne_150 rfl ?_
  refine V_iload dX1_weighOne_152 rfl ?_
  refine V_icmp_eq 192 dX1_weighOne_154 (by decide) (fun h154 => ?_) (fun h154 => ?_)
  · skip
    have e := bI_inj h154
    have f1 : (if b6 = b7 then 0 else 2 ^ p) = 0 := if_pos e
    have f2 : (if b6 = b7 then 0 else if b7 = true then 2 ^ p else 0) = 0 := if_pos e
    exact wo_D3 hk hp ho b6 b7 b8 b9 0 0 hw2 (by rw [← hG, f1, f2])
  · skip
    refine V_aload_n dX1_weighOne_157 rfl ?_
    refine V_get (8) fl_X1_27 dX1_weighOne_158 hw2.p8 rfl ?_
    refine V_iload_n dX1_weighOne_161 rfl ?_
    refine V_dup2 dX1_weighOne_162 rfl rfl ?_
    refine V_ialdN (14) dX1_weighOne_163 hw2.p14 hk (by decide) ?_
    rw [wSet_a]
    refine V_iconst (v := 1) dX1_weighOne_164 (by decide) ?_
    refine V_iload dX1_weighOne_165 rfl ?_
    refine V_ishl dX1_weighOne_167 ?_
    refine V_ior dX1_weighOne_168 ?_
    refine W_iastN (14) hw2 (by decide) (fun _ => rfl) dX1_weighOne_169 hk (by decide) (fun ws3 hw3 => ?_)
    rw [wSet_14] at hw3
    refine V_aload_n dX1_weighOne_170 rfl ?_
    refine V_get (8) fl_X1_30 dX1_weighOne_171 hw3.p8 rfl ?_
    refine V_iload_n dX1_weighOne_174 rfl ?_
    refine V_dup2 dX1_weighOne_175 rfl rfl ?_
    refine V_ialdN (15) dX1_weighOne_176 hw3.p15 hk (by decide) ?_
    rw [wSet_b]
    refine V_iload dX1_weighOne_177 rfl ?_
    refine V_if_eq 189 dX1_weighOne_179 (by decide) (fun h179 => ?_) (fun h179 => ?_)
    · skip
      refine V_iconst (v := 0) dX1_weighOne_189 (by decide) ?_
      refine V_ior dX1_weighOne_190 ?_
      refine W_iastN (15) hw3 (by decide) (fun _ => rfl) dX1_weighOne_191 hk (by decide) (fun ws4 hw4 => ?_)
      have e := bI_ne h154
      have e2 := bI_0 h179
      rw [wSet_15, shl1 p (by omega), nx_or] at hw4
      rw [show nI 0 ||| (0 : Int32) = nI 0 from rfl, Nat.zero_or] at hw4
      have f1 : (if b6 = b7 then 0 else 2 ^ p) = 2 ^ p := if_neg e
      have f2 : (if b6 = b7 then 0 else if b7 = true then 2 ^ p else 0) = 0 := by rw [if_neg e, if_neg (by rw [e2]; decide)]
      exact wo_D3 hk hp ho b6 b7 b8 b9 (2 ^ p) 0 hw4 (by rw [← hG, f1, f2])
    · skip
      refine V_iconst (v := 1) dX1_weighOne_182 (by decide) ?_
      refine V_iload dX1_weighOne_183 rfl ?_
      refine V_ishl dX1_weighOne_185 ?_
      refine V_goto 190 dX1_weighOne_186 (by decide) ?_
      refine V_ior dX1_weighOne_190 ?_
      refine W_iastN (15) hw3 (by decide) (fun _ => rfl) dX1_weighOne_191 hk (by decide) (fun ws4 hw4 => ?_)
      have e := bI_ne h154
      have e2 := bI_1 h179
      rw [wSet_15, shl1 p (by omega), nx_or, Nat.zero_or] at hw4
      have f1 : (if b6 = b7 then 0 else 2 ^ p) = 2 ^ p := if_neg e
      have f2 : (if b6 = b7 then 0 else if b7 = true then 2 ^ p else 0) = 2 ^ p := by rw [if_neg e, if_pos e2]
      exact wo_D3 hk hp ho b6 b7 b8 b9 (2 ^ p) (2 ^ p) hw4 (by rw [← hG, f1, f2])
set_option maxHeartbeats 4000000 in
set_option maxRecDepth 20000 in
theorem wo_D1 {k : Nat} (hk : k < 30) {p o : Nat} (hp : p < 10) (ho : o < 10) (b6 b7 b8 b9 : Bool) (hw : WF E ad el g w0 ws) : V E yX1_weighOne cX1_weighOne 10 none 2 0 0 (fun r w => r = none ∧ WF E ad el (wSet g k (nI (wAsk p o b6 b7 b8 b9)) (nI (wBrk p o b6 b7 b8 b9))) w0 w) 110 [some (.ref (ad 8)), some (.int (nI k)), some (.ref (ad 1)), some (.ref (ad 2)), some (.int (nI p)), some (.int (nI o)), some (.int (bI b6)), some (.int (bI b7)), some (.int (bI b8)), some (.int (bI b9))] [] ws 0 0 := by
  refine V_iload dX1_weighOne_110 rfl ?_
  refine V_if_ne 120 dX1_weighOne_112 (by decide) (fun h112 => ?_) (fun h112 => ?_)
  · skip
    refine V_iload dX1_weighOne_120 rfl ?_
    refine V_if_eq 136 dX1_weighOne_122 (by decide) (fun h122 => ?_) (fun h122 => ?_)
    · skip
      have e1 := bI_1 h112
      have e2 := bI_0 h122
      have f : ¬ (!b6 && !b7 || b8 && b9) = true := by simp [e1, e2]
      exact wo_D2 hk hp ho b6 b7 b8 b9 hw (by rw [wAsk, wBrk, if_neg f, if_neg f])
    · skip
      refine V_iload dX1_weighOne_125 rfl ?_
      refine V_if_eq 136 dX1_weighOne_127 (by decide) (fun h127 => ?_) (fun h127 => ?_)
      · skip
        have e1 := bI_1 h112
        have e2 := bI_1 h122
        have e3 := bI_0 h127
        have f : ¬ (!b6 && !b7 || b8 && b9) = true := by simp [e1, e2, e3]
        exact wo_D2 hk hp ho b6 b7 b8 b9 hw (by rw [wAsk, wBrk, if_neg f, if_neg f])
      · skip
        refine V_aload_n dX1_weighOne_130 rfl ?_
        refine V_iload_n dX1_weighOne_131 rfl ?_
        refine V_callV (8) mw_X1_neverBreaks mv_X1_55 dX1_weighOne_132 (ct_X1_neverBreaks hw.1 hk) hw.p8 rfl rfl rfl (Nat.le_of_ble_eq_true rfl) (by decide) (by decide) (by decide) (by decide) (fun r132 ws1 hp132 => ?_)
        obtain ⟨rfl, hw1⟩ := hp132
        have hw1 := hw.trans hw1
        refine V_vret dX1_weighOne_135 rfl (by decide) (by decide) ?_
        have e2 := bI_1 h122
        have e3 := bI_1 h127
        have f : (!b6 && !b7 || b8 && b9) = true := by simp [e2, e3]
        exact ⟨rfl, by rw [wAsk, wBrk, if_pos f, if_pos f]; exact hw1⟩
  · skip
    refine V_iload dX1_weighOne_115 rfl ?_
    refine V_if_eq 130 dX1_weighOne_117 (by decide) (fun h117 => ?_) (fun h117 => ?_)
    · skip
      refine V_aload_n dX1_weighOne_130 rfl ?_
      refine V_iload_n dX1_weighOne_131 rfl ?_
      refine V_callV (8) mw_X1_neverBreaks mv_X1_55 dX1_weighOne_132 (ct_X1_neverBreaks hw.1 hk) hw.p8 rfl rfl rfl (Nat.le_of_ble_eq_true rfl) (by decide) (by decide) (by decide) (by decide) (fun r132 ws1 hp132 => ?_)
      obtain ⟨rfl, hw1⟩ := hp132
      have hw1 := hw.trans hw1
      refine V_vret dX1_weighOne_135 rfl (by decide) (by decide) ?_
      have e1 := bI_0 h112
      have e0 := bI_0 h117
      have f : (!b6 && !b7 || b8 && b9) = true := by simp [e1, e0]
      exact ⟨rfl, by rw [wAsk, wBrk, if_pos f, if_pos f]; exact hw1⟩
    · skip
      refine V_iload dX1_weighOne_120 rfl ?_
      refine V_if_eq 136 dX1_weighOne_122 (by decide) (fun h122 => ?_) (fun h122 => ?_)
      · skip
        have e1 := bI_0 h112
        have e0 := bI_1 h117
        have e2 := bI_0 h122
        have f : ¬ (!b6 && !b7 || b8 && b9) = true := by simp [e1, e0, e2]
        exact wo_D2 hk hp ho b6 b7 b8 b9 hw (by rw [wAsk, wBrk, if_neg f, if_neg f])
      · skip
        refine V_iload dX1_weighOne_125 rfl ?_
        refine V_if_eq 136 dX1_weighOne_127 (by decide) (fun h127 => ?_) (fun h127 => ?_)
        · skip
          have e1 := bI_0 h112
          have e0 := bI_1 h117
          have e2 := bI_1 h122
          have e3 := bI_0 h127
          have f : ¬ (!b6 && !b7 || b8 && b9) = true := by simp [e1, e0, e2, e3]
          exact wo_D2 hk hp ho b6 b7 b8 b9 hw (by rw [wAsk, wBrk, if_neg f, if_neg f])
        · skip
          refine V_aload_n dX1_weighOne_130 rfl ?_
          refine V_iload_n dX1_weighOne_131 rfl ?_
          refine V_callV (8) mw_X1_neverBreaks mv_X1_55 dX1_weighOne_132 (ct_X1_neverBreaks hw.1 hk) hw.p8 rfl rfl rfl (Nat.le_of_ble_eq_true rfl) (by decide) (by decide) (by decide) (by decide) (fun r132 ws1 hp132 => ?_)
          obtain ⟨rfl, hw1⟩ := hp132
          have hw1 := hw.trans hw1
          refine V_vret dX1_weighOne_135 rfl (by decide) (by decide) ?_
          have e2 := bI_1 h122
          have e3 := bI_1 h127
          have f : (!b6 && !b7 || b8 && b9) = true := by simp [e2, e3]
          exact ⟨rfl, by rw [wAsk, wBrk, if_pos f, if_pos f]; exact hw1⟩
/-- of need k: is its part at the version at home; with its offer; does the other hold at home; with its offer -/
def nH (g : Nat → Nat → Int32) (k : Nat) : Bool := decide (g 1 (g 9 k).toNatClampNeg = g 10 k)
def nO (g : Nat → Nat → Int32) (k : Nat) : Bool := if at10 (g 3) (g 9 k) = -1 then nH g k else decide (at10 (g 3) (g 9 k) = g 10 k)
def nHh (g : Nat → Nat → Int32) (k : Nat) : Bool := hold g k (g 1 (g 11 k).toNatClampNeg)
def nOh (g : Nat → Nat → Int32) (k : Nat) : Bool := if at10 (g 3) (g 11 k) = -1 then nHh g k else hold g k (at10 (g 3) (g 11 k))
def wA (g : Nat → Nat → Int32) (k : Nat) : Int32 := nI (wAsk (g 9 k).toNatClampNeg (g 11 k).toNatClampNeg (nH g k) (nO g k) (nHh g k) (nOh g k))
def wB (g : Nat → Nat → Int32) (k : Nat) : Int32 := nI (wBrk (g 9 k).toNatClampNeg (g 11 k).toNatClampNeg (nH g k) (nO g k) (nHh g k) (nOh g k))
set_option maxHeartbeats 4000000 in
set_option maxRecDepth 20000 in
theorem wo_fin (hw : WF E ad el g w0 ws) {k : Nat} (hk : k < 30) {p o : Nat} (hp : p < 10) (ho : o < 10) (ep : g 9 k = nI p) (eo : g 11 k = nI o) (b8 b9 : Bool) (e8 : b8 = nHh g k) (e9 : b9 = nOh g k) : V E yX1_weighOne cX1_weighOne 10 none 2 0 0 (fun r w => r = none ∧ WF E ad el (wSet g k (wA g k) (wB g k)) w0 w) 110 [some (.ref (ad 8)), some (.int (nI k)), some (.ref (ad 1)), some (.ref (ad 2)), some (.int (nI p)), some (.int (nI o)), some (.int (bI (nH g k))), some (.int (bI (nO g k))), some (.int (bI b8)), some (.int (bI b9))] [] ws 0 0 := by
  subst e8 e9
  have q := wo_D1 hk hp ho (nH g k) (nO g k) (nHh g k) (nOh g k) hw
  unfold wA wB
  rw [ep, eo, nI_clamp (by omega), nI_clamp (by omega)]
  exact q
set_option maxHeartbeats 4000000 in
set_option maxRecDepth 20000 in
theorem wo_C (hw : WF E ad el g w0 ws) {k : Nat} (hk : k < 30) {p o : Nat} (hp : p < 10) (ho : o < 10) (ep : g 9 k = nI p) (eo : g 11 k = nI o) : V E yX1_weighOne cX1_weighOne 10 none 2 0 0 (fun r w => r = none ∧ WF E ad el (wSet g k (wA g k) (wB g k)) w0 w) 72 [some (.ref (ad 8)), some (.int (nI k)), some (.ref (ad 1)), some (.ref (ad 2)), some (.int (nI p)), some (.int (nI o)), some (.int (bI (nH g k))), some (.int (bI (nO g k))), none, none] [] ws 0 0 := by
  refine V_aload_n dX1_weighOne_72 rfl ?_
  refine V_iload_n dX1_weighOne_73 rfl ?_
  refine V_aload_n dX1_weighOne_74 rfl ?_
  refine V_iload dX1_weighOne_75 rfl ?_
  refine V_ialdN (1) dX1_weighOne_77 hw.p1 ho (by decide) ?_
  refine V_rdV (8) mw_X1_holds mv_X1_51 dX1_weighOne_78 (ct_X1_holds hw hk _) hw.p8 rfl rfl rfl (Nat.le_of_ble_eq_true rfl) (by decide) (by decide) (by decide) (by decide) ?_
  have e8 : hold g k (g 1 o) = nHh g k := by rw [nHh, eo, nI_clamp (by omega)]
  rw [e8]
  refine V_istore dX1_weighOne_81 (by decide) ?_
  refine V_aload_n dX1_weighOne_83 rfl ?_
  refine V_iload dX1_weighOne_84 rfl ?_
  refine V_rdV (2) mw_X2_has mv_X1_41 dX1_weighOne_86 (ct_X2_has hw (Or.inl rfl) (nI o)) hw.p2 rfl rfl rfl (Nat.le_of_ble_eq_true rfl) (by decide) (by decide) (by decide) (by decide) ?_
  refine V_if_eq 106 dX1_weighOne_89 (by decide) (fun h89 => ?_) (fun h89 => ?_)
  · skip
    refine V_iload dX1_weighOne_106 rfl ?_
    refine V_istore dX1_weighOne_108 (by decide) ?_
    have c : at10 (g 3) (g 11 k) = -1 := by
      rw [eo]
      by_cases c : at10 (g (2 + 1)) (nI o) = -1
      · exact c
      · rw [if_neg c] at h89
        exact absurd h89 (by decide)
    exact wo_fin hw hk hp ho ep eo _ _ rfl (by rw [nOh, if_pos c])
  · skip
    refine V_aload_n dX1_weighOne_92 rfl ?_
    refine V_iload_n dX1_weighOne_93 rfl ?_
    refine V_aload_n dX1_weighOne_94 rfl ?_
    refine V_iload dX1_weighOne_95 rfl ?_
    refine V_rdV (2) mw_X2_versionOf mv_X1_47 dX1_weighOne_97 (ct_X2_versionOf hw (Or.inl rfl) (nI o)) hw.p2 rfl rfl rfl (Nat.le_of_ble_eq_true rfl) (by decide) (by decide) (by decide) (by decide) ?_
    refine V_rdV (8) mw_X1_holds mv_X1_51 dX1_weighOne_100 (ct_X1_holds hw hk _) hw.p8 rfl rfl rfl (Nat.le_of_ble_eq_true rfl) (by decide) (by decide) (by decide) (by decide) ?_
    refine V_goto 108 dX1_weighOne_103 (by decide) ?_
    refine V_istore dX1_weighOne_108 (by decide) ?_
    have c : ¬ at10 (g 3) (g 11 k) = -1 := by
      rw [eo]
      intro c
      exact h89 (if_pos c)
    exact wo_fin hw hk hp ho ep eo _ _ rfl (by rw [nOh, if_neg c, eo])
set_option maxHeartbeats 4000000 in
set_option maxRecDepth 20000 in
theorem wo_C2 (hw : WF E ad el g w0 ws) {k : Nat} (hk : k < 30) {p o : Nat} (hp : p < 10) (ho : o < 10) (ep : g 9 k = nI p) (eo : g 11 k = nI o) (x : Int32) (ex : x = bI (nO g k)) : V E yX1_weighOne cX1_weighOne 10 none 2 0 0 (fun r w => r = none ∧ WF E ad el (wSet g k (wA g k) (wB g k)) w0 w) 72 [some (.ref (ad 8)), some (.int (nI k)), some (.ref (ad 1)), some (.ref (ad 2)), some (.int (nI p)), some (.int (nI o)), some (.int (bI (nH g k))), some (.int x), none, none] [] ws 0 0 := by
  subst ex
  exact wo_C hw hk hp ho ep eo
set_option maxHeartbeats 4000000 in
set_option maxRecDepth 20000 in
theorem wo_B (hw : WF E ad el g w0 ws) {k : Nat} (hk : k < 30) {p o : Nat} (hp : p < 10) (ho : o < 10) (ep : g 9 k = nI p) (eo : g 11 k = nI o) : V E yX1_weighOne cX1_weighOne 10 none 2 0 0 (fun r w => r = none ∧ WF E ad el (wSet g k (wA g k) (wB g k)) w0 w) 36 [some (.ref (ad 8)), some (.int (nI k)), some (.ref (ad 1)), some (.ref (ad 2)), some (.int (nI p)), some (.int (nI o)), some (.int (bI (nH g k))), none, none, none] [] ws 0 0 := by
  refine V_aload_n dX1_weighOne_36 rfl ?_
  refine V_iload dX1_weighOne_37 rfl ?_
  refine V_rdV (2) mw_X2_has mv_X1_41 dX1_weighOne_39 (ct_X2_has hw (Or.inl rfl) (nI p)) hw.p2 rfl rfl rfl (Nat.le_of_ble_eq_true rfl) (by decide) (by decide) (by decide) (by decide) ?_
  refine V_if_eq 68 dX1_weighOne_42 (by decide) (fun h42 => ?_) (fun h42 => ?_)
  · skip
    refine V_iload dX1_weighOne_68 rfl ?_
    refine V_istore dX1_weighOne_70 (by decide) ?_
    have c : at10 (g 3) (g 9 k) = -1 := by
      rw [ep]
      by_cases c : at10 (g (2 + 1)) (nI p) = -1
      · exact c
      · rw [if_neg c] at h42
        exact absurd h42 (by decide)
    exact wo_C2 hw hk hp ho ep eo _ (by rw [nO, if_pos c])
  · skip
    refine V_aload_n dX1_weighOne_45 rfl ?_
    refine V_iload dX1_weighOne_46 rfl ?_
    refine V_rdV (2) mw_X2_versionOf mv_X1_47 dX1_weighOne_48 (ct_X2_versionOf hw (Or.inl rfl) (nI p)) hw.p2 rfl rfl rfl (Nat.le_of_ble_eq_true rfl) (by decide) (by decide) (by decide) (by decide) ?_
    refine V_aload_n dX1_weighOne_51 rfl ?_
    refine V_get (8) fl_X1_15 dX1_weighOne_52 hw.p8 rfl ?_
    refine V_iload_n dX1_weighOne_55 rfl ?_
    refine V_ialdN (10) dX1_weighOne_56 hw.p10 hk (by decide) ?_
    refine V_icmp_ne 64 dX1_weighOne_57 (by decide) (fun h57 => ?_) (fun h57 => ?_)
    · skip
      refine V_iconst (v := 0) dX1_weighOne_64 (by decide) ?_
      refine V_goto 70 dX1_weighOne_65 (by decide) ?_
      refine V_istore dX1_weighOne_70 (by decide) ?_
      have c : ¬ at10 (g 3) (g 9 k) = -1 := by
        rw [ep]
        intro c
        exact h42 (if_pos c)
      exact wo_C2 hw hk hp ho ep eo _ (by rw [nO, if_neg c, ep, decide_eq_false h57]; rfl)
    · skip
      refine V_iconst (v := 1) dX1_weighOne_60 (by decide) ?_
      refine V_goto 70 dX1_weighOne_61 (by decide) ?_
      refine V_istore dX1_weighOne_70 (by decide) ?_
      have c : ¬ at10 (g 3) (g 9 k) = -1 := by
        rw [ep]
        intro c
        exact h42 (if_pos c)
      exact wo_C2 hw hk hp ho ep eo _ (by rw [nO, if_neg c, ep, decide_eq_true h57]; rfl)
set_option maxHeartbeats 4000000 in
set_option maxRecDepth 20000 in
theorem wo_B2 (hw : WF E ad el g w0 ws) {k : Nat} (hk : k < 30) {p o : Nat} (hp : p < 10) (ho : o < 10) (ep : g 9 k = nI p) (eo : g 11 k = nI o) (x : Int32) (ex : x = bI (nH g k)) : V E yX1_weighOne cX1_weighOne 10 none 2 0 0 (fun r w => r = none ∧ WF E ad el (wSet g k (wA g k) (wB g k)) w0 w) 36 [some (.ref (ad 8)), some (.int (nI k)), some (.ref (ad 1)), some (.ref (ad 2)), some (.int (nI p)), some (.int (nI o)), some (.int x), none, none, none] [] ws 0 0 := by
  subst ex
  exact wo_B hw hk hp ho ep eo
set_option maxHeartbeats 4000000 in
set_option maxRecDepth 20000 in
theorem ct_X1_weighOne (hw : Wd E ad el g ws) {k : Nat} (hk : k < 30) {p o : Nat} (hp : p < 10) (ho : o < 10) (ep : g 9 k = nI p) (eo : g 11 k = nI o) : Ct E yX1_weighOne cX1_weighOne 10 none 2 0 0 [.ref (ad 8), .int (nI k), .ref (ad 1), .ref (ad 2)] ws (fun r w => r = none ∧ WF E ad el (wSet g k (wA g k) (wB g k)) ws w) := by
  refine Ct_of mw_X1_weighOne rfl (Nat.le_of_ble_eq_true rfl) ?_
  have hw := WF.rf hw
  refine V_aload_n dX1_weighOne_0 rfl ?_
  refine V_get (8) fl_X1_9 dX1_weighOne_1 hw.p8 rfl ?_
  refine V_iload_n dX1_weighOne_4 rfl ?_
  refine V_ialdN (9) dX1_weighOne_5 hw.p9 hk (by decide) ?_
  rw [ep]
  refine V_istore dX1_weighOne_6 (by decide) ?_
  refine V_aload_n dX1_weighOne_8 rfl ?_
  refine V_get (8) fl_X1_18 dX1_weighOne_9 hw.p8 rfl ?_
  refine V_iload_n dX1_weighOne_12 rfl ?_
  refine V_ialdN (11) dX1_weighOne_13 hw.p11 hk (by decide) ?_
  rw [eo]
  refine V_istore dX1_weighOne_14 (by decide) ?_
  refine V_aload_n dX1_weighOne_16 rfl ?_
  refine V_iload dX1_weighOne_17 rfl ?_
  refine V_ialdN (1) dX1_weighOne_19 hw.p1 hp (by decide) ?_
  refine V_aload_n dX1_weighOne_20 rfl ?_
  refine V_get (8) fl_X1_15 dX1_weighOne_21 hw.p8 rfl ?_
  refine V_iload_n dX1_weighOne_24 rfl ?_
  refine V_ialdN (10) dX1_weighOne_25 hw.p10 hk (by decide) ?_
  refine V_icmp_ne 33 dX1_weighOne_26 (by decide) (fun h26 => ?_) (fun h26 => ?_)
  · skip
    refine V_iconst (v := 0) dX1_weighOne_33 (by decide) ?_
    refine V_istore dX1_weighOne_34 (by decide) ?_
    exact wo_B2 hw hk hp ho ep eo _ (by rw [nH, ep, nI_clamp (by omega), decide_eq_false h26]; rfl)
  · skip
    refine V_iconst (v := 1) dX1_weighOne_29 (by decide) ?_
    refine V_goto 34 dX1_weighOne_30 (by decide) ?_
    refine V_istore dX1_weighOne_34 (by decide) ?_
    exact wo_B2 hw hk hp ho ep eo _ (by rw [nH, ep, nI_clamp (by omega), decide_eq_true h26]; rfl)
/-- the first i needs weighed -/
def wTo (g : Nat → Nat → Int32) (i : Nat) : Nat → Nat → Int32 := va_up (va_up g 14 (fun k => if k < i then wA g k else g 14 k)) 15 (fun k => if k < i then wB g k else g 15 k)
theorem wTo_0 (g : Nat → Nat → Int32) : wTo g 0 = g := by
  have e1 : (fun k => if k < 0 then wA g k else g 14 k) = g 14 := by funext k; rw [if_neg (Nat.not_lt_zero k)]
  have e2 : (fun k => if k < 0 then wB g k else g 15 k) = g 15 := by funext k; rw [if_neg (Nat.not_lt_zero k)]
  rw [wTo, e1, e2, va_up_id, va_up_id]
theorem wTo_s (g : Nat → Nat → Int32) (i : Nat) : wSet (wTo g i) i (wA (wTo g i) i) (wB (wTo g i) i) = wTo g (i + 1) := by
  have e1 : upd (fun k => if k < i then wA g k else g 14 k) i (wA g i) = (fun k => if k < i + 1 then wA g k else g 14 k) := by
    funext k
    unfold upd
    by_cases h : k = i
    · subst h; simp
    · by_cases h2 : k < i
      · rw [if_neg h]; dsimp only; rw [if_pos h2, if_pos (by omega)]
      · rw [if_neg h]; dsimp only; rw [if_neg h2, if_neg (by omega)]
  have e2 : upd (fun k => if k < i then wB g k else g 15 k) i (wB g i) = (fun k => if k < i + 1 then wB g k else g 15 k) := by
    funext k
    unfold upd
    by_cases h : k = i
    · subst h; simp
    · by_cases h2 : k < i
      · rw [if_neg h]; dsimp only; rw [if_pos h2, if_pos (by omega)]
      · rw [if_neg h]; dsimp only; rw [if_neg h2, if_neg (by omega)]
  show va_up (va_up (va_up (va_up g 14 _) 15 _) 14 (upd (fun k => if k < i then wA g k else g 14 k) i (wA g i))) 15 (upd (fun k => if k < i then wB g k else g 15 k) i (wB g i)) = _
  rw [e1, e2, va_up_sw _ (by decide) _ (fun k => if k < i + 1 then wA g k else g 14 k), va_up_up, va_up_up]
  rfl
/-- the parts of the needs are parts -/
def NOK (g : Nat → Nat → Int32) (n : Nat) : Prop := ∀ k, k < n → ∃ p o : Nat, p < 10 ∧ o < 10 ∧ g 9 k = nI p ∧ g 11 k = nI o
set_option maxHeartbeats 4000000 in
set_option maxRecDepth 20000 in
theorem lp_X1_weigh {n : Nat} (hn : g 8 7 = nI n) (hN : n ≤ 30) (hok : NOK g n) : ∀ (k i : Nat) (x : Int32) (ws : va_W), i ≤ n → n < i + k → x = nI i → WF E ad el (wTo g i) w0 ws → V E yX1_weigh cX1_weigh 4 none 3 0 0 (fun r w => r = none ∧ WF E ad el (wTo g n) w0 w) 2 [some (.ref (ad 8)), some (.ref (ad 1)), some (.ref (ad 2)), some (.int x)] [] ws 0 0 := by
  intro k
  induction k with
  | zero => intro i x ws h1 h2; exact absurd h2 (by omega)
  | succ k ih =>
    intro i x ws hil hin hx hw
    subst hx
    refine V_iload_n dX1_weigh_2 rfl ?_
    refine V_aload_n dX1_weigh_3 rfl ?_
    refine V_get (8) fl_X1_33 dX1_weigh_4 hw.p8 rfl ?_
    refine V_icmp_ge 23 dX1_weigh_7 (by decide) (fun h7 => ?_) (fun h7 => ?_)
    · skip
      refine V_vret dX1_weigh_23 rfl (by decide) (by decide) ?_
      have hi : i = n := by have := leK (a := n) (b := i) (by omega) (by omega) (by rw [← hn]; exact h7); omega
      subst hi
      exact ⟨rfl, hw⟩
    · skip
      have hi := nleK (a := n) (b := i) (by omega) (by omega) (by rw [← hn]; exact h7)
      obtain ⟨p, o, hp, ho, ep, eo⟩ := hok i hi
      refine V_aload_n dX1_weigh_10 rfl ?_
      refine V_iload_n dX1_weigh_11 rfl ?_
      refine V_aload_n dX1_weigh_12 rfl ?_
      refine V_aload_n dX1_weigh_13 rfl ?_
      refine V_callV (8) mw_X1_weighOne mv_X1_37 dX1_weigh_14 (ct_X1_weighOne hw.1 (by omega) hp ho ep eo) hw.p8 rfl rfl rfl (Nat.le_of_ble_eq_true rfl) (by decide) (by decide) (by decide) (by decide) (fun r14 ws1 hp14 => ?_)
      obtain ⟨rfl, hw1⟩ := hp14
      have hw1 := hw.trans hw1
      rw [wTo_s] at hw1
      refine V_iinc dX1_weigh_17 rfl rfl (by decide) ?_
      refine V_goto 2 dX1_weigh_20 (by decide) ?_
      exact ih (i + 1) _ _ (by omega) (by omega) (nI_1 i) hw1
set_option maxHeartbeats 4000000 in
set_option maxRecDepth 20000 in
theorem ct_X1_weigh (hw : Wd E ad el g ws) {n : Nat} (hn : g 8 7 = nI n) (hN : n ≤ 30) (hok : NOK g n) : Ct E yX1_weigh cX1_weigh 4 none 3 0 0 [.ref (ad 8), .ref (ad 1), .ref (ad 2)] ws (fun r w => r = none ∧ WF E ad el (wTo g n) ws w) := by
  refine Ct_of mw_X1_weigh rfl (Nat.le_of_ble_eq_true rfl) ?_
  refine V_iconst (v := 0) dX1_weigh_0 (by decide) ?_
  refine V_istore_n dX1_weigh_1 (by decide) ?_
  exact lp_X1_weigh hn hN hok (n + 1) 0 _ ws (Nat.zero_le _) (by omega) rfl (by rw [wTo_0]; exact WF.rf hw)
end NDS
end
section
/-! ===== Integer.bitCount, lowestOneBit; Route (18, 19) ===== -/
/-- how many of the bits 0 .. k - 1 are set -/
def cnt (S : Nat) : Nat → Nat
  | 0 => 0
  | k + 1 => cnt S k + (if S.testBit k = true then 1 else 0)
abbrev popc (S : Nat) : Nat := cnt S 10
def us (x : Int32) (k : Int32) : Int32 := (x.toUInt32 >>> (k.toUInt32 &&& Int32.toUInt32 31)).toInt32
def bc1 (x : Int32) : Int32 := x - (us x 1 &&& 1431655765)
def bc2 (x : Int32) : Int32 := (x &&& 858993459) + (us x 2 &&& 858993459)
def bc3 (x : Int32) : Int32 := (x + us x 4) &&& 252645135
def bc4 (x : Int32) : Int32 := x + us x 8
def bc5 (x : Int32) : Int32 := x + us x 16
def bcI (x : Int32) : Int32 := bc5 (bc4 (bc3 (bc2 (bc1 x)))) &&& 63
theorem bcI_eq : ∀ S, S < 1024 → bcI (nI S) = nI (popc S) := by decide +kernel
theorem popc_le : ∀ S, S < 1024 → popc S ≤ 10 := by decide +kernel
def lowI (x : Int32) : Int32 := x &&& (-x)
/-- the first part that may go out next -/
def pOpen (g : Nat → Nat → Int32) (n G s p : Nat) : Bool := G.testBit p && (!decide (s ||| 2 ^ p = s) && decide (fi (pBrk (g 14) (g 15) (nI (s ||| 2 ^ p))) n 0 = -1))
def sI (s : Option Nat) : Int32 := match s with
  | none => -1
  | some s => nI s
/-- the plan: from i parts on, the path so far, the set that is out (none: stuck) -/
def planL (g : Nat → Nat → Int32) (n G sz : Nat) : Nat → Nat → (Nat → Int32) → Option Nat → (Nat → Int32) × Option Nat
  | 0, _, f, s => (f, s)
  | _ + 1, _, f, none => (f, none)
  | k + 1, i, f, some s => if sz ≤ i then (f, some s) else
    if fi (pOpen g n G s) 10 0 = -1 then (upd f i (-1), none) else planL g n G sz k (i + 1) (upd f i (fi (pOpen g n G s) 10 0)) (some (s ||| 2 ^ (fi (pOpen g n G s) 10 0).toNatClampNeg))
def plan (g : Nat → Nat → Int32) (n G : Nat) : (Nat → Int32) × Option Nat := planL g n G (popc G) 11 0 (g 19) (if fi (pBrk (g 14) (g 15) 0) n 0 = -1 then some 0 else none)
def planG (g : Nat → Nat → Int32) (n G : Nat) : Nat → Nat → Int32 := va_up (va_up g 19 (plan g n G).1) 18 (upd (g 18) 1 (if sI (plan g n G).2 = -1 then -1 else nI (popc G)))
theorem or_lt {a p : Nat} (ha : a < 1024) (hp : p < 10) : a ||| 2 ^ p < 1024 := Nat.or_lt_two_pow (n := 10) ha (Nat.pow_lt_pow_right (by decide) hp)
theorem nI_inj1024 {a b : Nat} (ha : a < 1024) (hb : b < 1024) (h : nI a = nI b) : a = b := (nI_eq (by omega) (by omega)).mp h
theorem nI_ne_m1 {a : Nat} (ha : a < 2 ^ 31) : ¬ nI a = -1 := fun h => absurd (h ▸ nI_pos ha) (by decide)
section RTE
variable {E : VE} {ad : Nat → Nat} {el : Nat} {g : Nat → Nat → Int32} {w0 ws : va_W}
set_option maxHeartbeats 4000000 in
set_option maxRecDepth 20000 in
theorem ct_bitCountI (x : Int32) : Ct E yJ6_bitCount_0f7a4 cJ6_bitCount_0f7a4 1 (some (.int)) 0 0 0 [.int x] ws (fun r w => r = some (.int (bcI x)) ∧ w = ws) := by
  refine Ct_of mw_J6_bitCount_0f7a4 rfl (Nat.le_of_ble_eq_true rfl) ?_
  refine V_iload_n dJ6_bitCount_0f7a4_0 rfl ?_
  refine V_iload_n dJ6_bitCount_0f7a4_1 rfl ?_
  refine V_iconst (v := 1) dJ6_bitCount_0f7a4_2 (by decide) ?_
  refine V_iushr dJ6_bitCount_0f7a4_3 rfl ?_
  refine V_ldcw wd_co_J6_265 dJ6_bitCount_0f7a4_4 ?_
  refine V_iand dJ6_bitCount_0f7a4_7 ?_
  refine V_isub dJ6_bitCount_0f7a4_8 ?_
  refine V_istore_n dJ6_bitCount_0f7a4_9 (by decide) ?_
  refine V_iload_n dJ6_bitCount_0f7a4_10 rfl ?_
  refine V_ldcw wd_co_J6_266 dJ6_bitCount_0f7a4_11 ?_
  refine V_iand dJ6_bitCount_0f7a4_14 ?_
  refine V_iload_n dJ6_bitCount_0f7a4_15 rfl ?_
  refine V_iconst (v := 2) dJ6_bitCount_0f7a4_16 (by decide) ?_
  refine V_iushr dJ6_bitCount_0f7a4_17 rfl ?_
  refine V_ldcw wd_co_J6_266 dJ6_bitCount_0f7a4_18 ?_
  refine V_iand dJ6_bitCount_0f7a4_21 ?_
  refine V_iadd dJ6_bitCount_0f7a4_22 ?_
  refine V_istore_n dJ6_bitCount_0f7a4_23 (by decide) ?_
  refine V_iload_n dJ6_bitCount_0f7a4_24 rfl ?_
  refine V_iload_n dJ6_bitCount_0f7a4_25 rfl ?_
  refine V_iconst (v := 4) dJ6_bitCount_0f7a4_26 (by decide) ?_
  refine V_iushr dJ6_bitCount_0f7a4_27 rfl ?_
  refine V_iadd dJ6_bitCount_0f7a4_28 ?_
  refine V_ldcw wd_co_J6_267 dJ6_bitCount_0f7a4_29 ?_
  refine V_iand dJ6_bitCount_0f7a4_32 ?_
  refine V_istore_n dJ6_bitCount_0f7a4_33 (by decide) ?_
  refine V_iload_n dJ6_bitCount_0f7a4_34 rfl ?_
  refine V_iload_n dJ6_bitCount_0f7a4_35 rfl ?_
  refine V_bipush (v := 8) dJ6_bitCount_0f7a4_36 (by decide) ?_
  refine V_iushr dJ6_bitCount_0f7a4_38 rfl ?_
  refine V_iadd dJ6_bitCount_0f7a4_39 ?_
  refine V_istore_n dJ6_bitCount_0f7a4_40 (by decide) ?_
  refine V_iload_n dJ6_bitCount_0f7a4_41 rfl ?_
  refine V_iload_n dJ6_bitCount_0f7a4_42 rfl ?_
  refine V_bipush (v := 16) dJ6_bitCount_0f7a4_43 (by decide) ?_
  refine V_iushr dJ6_bitCount_0f7a4_45 rfl ?_
  refine V_iadd dJ6_bitCount_0f7a4_46 ?_
  refine V_istore_n dJ6_bitCount_0f7a4_47 (by decide) ?_
  refine V_iload_n dJ6_bitCount_0f7a4_48 rfl ?_
  refine V_bipush (v := 63) dJ6_bitCount_0f7a4_49 (by decide) ?_
  refine V_iand dJ6_bitCount_0f7a4_51 ?_
  refine V_iret dJ6_bitCount_0f7a4_52 rfl (by decide) (by decide) ?_
  exact ⟨rfl, rfl⟩
set_option maxHeartbeats 4000000 in
set_option maxRecDepth 20000 in
theorem ct_bitCount {S : Nat} (hS : S < 1024) : Ct E yJ6_bitCount_0f7a4 cJ6_bitCount_0f7a4 1 (some (.int)) 0 0 0 [.int (nI S)] ws (fun r w => r = some (.int (nI (popc S))) ∧ w = ws) := by
  have h := ct_bitCountI (E := E) (ws := ws) (nI S)
  rw [bcI_eq S hS] at h
  exact h
set_option maxHeartbeats 4000000 in
set_option maxRecDepth 20000 in
theorem ct_lowestOneBit (x : Int32) : Ct E yJ6_lowestOneBit_0f7a4 cJ6_lowestOneBit_0f7a4 1 (some (.int)) 0 0 0 [.int x] ws (fun r w => r = some (.int (lowI x)) ∧ w = ws) := by
  refine Ct_of mw_J6_lowestOneBit_0f7a4 rfl (Nat.le_of_ble_eq_true rfl) ?_
  refine V_iload_n dJ6_lowestOneBit_0f7a4_0 rfl ?_
  refine V_iload_n dJ6_lowestOneBit_0f7a4_1 rfl ?_
  refine V_ineg dJ6_lowestOneBit_0f7a4_2 ?_
  refine V_iand dJ6_lowestOneBit_0f7a4_3 ?_
  refine V_iret dJ6_lowestOneBit_0f7a4_4 rfl (by decide) (by decide) ?_
  exact ⟨rfl, rfl⟩
set_option maxHeartbeats 4000000 in
set_option maxRecDepth 20000 in
theorem ct_X4_isFound (hw : WF E ad el g w0 ws) : Ct E yX4_isFound cX4_isFound 1 (some (.boolean)) 0 0 0 [.ref (ad 18)] ws (fun r w => r = some (.int (if g 18 1 = -1 then 0 else 1)) ∧ w = ws) := by
  refine Ct_of mw_X4_isFound rfl (Nat.le_of_ble_eq_true rfl) ?_
  refine V_aload_n dX4_isFound_0 rfl ?_
  refine V_get (18) fl_X4_15 dX4_isFound_1 hw.p18 rfl ?_
  refine V_iconst (v := -1) dX4_isFound_4 (by decide) ?_
  refine V_icmp_eq 12 dX4_isFound_5 (by decide) (fun h5 => ?_) (fun h5 => ?_)
  · skip
    refine V_iconst (v := 0) dX4_isFound_12 (by decide) ?_
    refine V_zret dX4_isFound_13 rfl (by first | exact Or.inl rfl | exact Or.inr rfl) (by decide) (by decide) ?_
    exact ⟨by rw [if_pos h5], rfl⟩
  · skip
    refine V_iconst (v := 1) dX4_isFound_8 (by decide) ?_
    refine V_goto 13 dX4_isFound_9 (by decide) ?_
    refine V_zret dX4_isFound_13 rfl (by first | exact Or.inl rfl | exact Or.inr rfl) (by decide) (by decide) ?_
    exact ⟨by rw [if_neg h5], rfl⟩
set_option maxHeartbeats 4000000 in
set_option maxRecDepth 20000 in
theorem ct_X4_partAt (hw : WF E ad el g w0 ws) (i : Int32) : Ct E yX4_partAt cX4_partAt 2 (some (.int)) 0 0 0 [.ref (ad 18), .int i] ws (fun r w => r = some (.int (if i < 0 then -1 else if g 18 1 ≤ i then -1 else if 10 ≤ i then -1 else g 19 i.toNatClampNeg)) ∧ w = ws) := by
  refine Ct_of mw_X4_partAt rfl (Nat.le_of_ble_eq_true rfl) ?_
  refine V_iload_n dX4_partAt_0 rfl ?_
  refine V_if_lt 27 dX4_partAt_1 (by decide) (fun h1 => ?_) (fun h1 => ?_)
  · skip
    refine V_iconst (v := -1) dX4_partAt_27 (by decide) ?_
    refine V_iret dX4_partAt_28 rfl (by decide) (by decide) ?_
    exact ⟨by rw [if_pos h1], rfl⟩
  · skip
    refine V_iload_n dX4_partAt_4 rfl ?_
    refine V_aload_n dX4_partAt_5 rfl ?_
    refine V_get (18) fl_X4_15 dX4_partAt_6 hw.p18 rfl ?_
    refine V_icmp_ge 27 dX4_partAt_9 (by decide) (fun h9 => ?_) (fun h9 => ?_)
    · skip
      refine V_iconst (v := -1) dX4_partAt_27 (by decide) ?_
      refine V_iret dX4_partAt_28 rfl (by decide) (by decide) ?_
      exact ⟨by rw [if_neg h1, if_pos h9], rfl⟩
    · skip
      refine V_iload_n dX4_partAt_12 rfl ?_
      refine V_bipush (v := 10) dX4_partAt_13 (by decide) ?_
      refine V_icmp_ge 27 dX4_partAt_15 (by decide) (fun h15 => ?_) (fun h15 => ?_)
      · skip
        refine V_iconst (v := -1) dX4_partAt_27 (by decide) ?_
        refine V_iret dX4_partAt_28 rfl (by decide) (by decide) ?_
        exact ⟨by rw [if_neg h1, if_neg h9, if_pos h15], rfl⟩
      · skip
        refine V_aload_n dX4_partAt_18 rfl ?_
        refine V_get (18) fl_X4_9 dX4_partAt_19 hw.p18 rfl ?_
        refine V_iload_n dX4_partAt_22 rfl ?_
        refine V_iald (19) dX4_partAt_23 hw.p19 (in_of (n := 10) (by decide) h1 h15) ?_
        refine V_goto 28 dX4_partAt_24 (by decide) ?_
        refine V_iret dX4_partAt_28 rfl (by decide) (by decide) ?_
        exact ⟨by rw [if_neg h1, if_neg h9, if_neg h15], rfl⟩
set_option maxHeartbeats 4000000 in
set_option maxRecDepth 20000 in
theorem lp_X4_firstOpen (hw : WF E ad el g w0 ws) {n : Nat} (hn : g 8 7 = nI n) (hN : n ≤ 30) {G s : Nat} (hG : G < 1024) (hs : s < 1024) : ∀ (k i : Nat) (x : Int32) (z : Option Value), i ≤ 10 → 10 < i + k → x = nI i → fi (pOpen g n G s) 10 0 = fi (pOpen g n G s) (10 - i) i → V E yX4_firstOpen cX4_firstOpen 5 (some (.int)) 1 0 0 (fun r w => r = some (.int (fi (pOpen g n G s) 10 0)) ∧ w = ws) 2 [some (.ref (ad 8)), some (.int (nI G)), some (.int (nI s)), some (.int x), z] [] ws 0 0 := by
  intro k
  induction k with
  | zero => intro i x z h1 h2; exact absurd h2 (by omega)
  | succ k ih =>
    intro i x z hil hin hx hinv
    subst hx
    refine V_iload_n dX4_firstOpen_2 rfl ?_
    refine V_bipush (v := 10) dX4_firstOpen_3 (by decide) ?_
    refine V_icmp_ge 47 dX4_firstOpen_5 (by decide) (fun h5 => ?_) (fun h5 => ?_)
    · skip
      refine V_iconst (v := -1) dX4_firstOpen_47 (by decide) ?_
      refine V_iret dX4_firstOpen_48 rfl (by decide) (by decide) ?_
      have hi := leK (a := 10) (b := i) (by decide) (by omega) h5
      exact ⟨by rw [hinv, fi_end hi], rfl⟩
    · skip
      have hi := nleK (a := 10) (b := i) (by decide) (by omega) h5
      refine V_iload_n dX4_firstOpen_8 rfl ?_
      refine V_iconst (v := 1) dX4_firstOpen_9 (by decide) ?_
      refine V_iload_n dX4_firstOpen_10 rfl ?_
      refine V_ishl dX4_firstOpen_11 ?_
      refine V_ior dX4_firstOpen_12 ?_
      rw [shl1 i (by omega), nx_or]
      refine V_istore dX4_firstOpen_13 (by decide) ?_
      refine V_iload_n dX4_firstOpen_15 rfl ?_
      refine V_iload_n dX4_firstOpen_16 rfl ?_
      refine V_ishr dX4_firstOpen_17 ?_
      refine V_iconst (v := 1) dX4_firstOpen_18 (by decide) ?_
      refine V_iand dX4_firstOpen_19 ?_
      refine V_if_eq 41 dX4_firstOpen_20 (by decide) (fun h20 => ?_) (fun h20 => ?_)
      · skip
        refine V_iinc dX4_firstOpen_41 rfl rfl (by decide) ?_
        refine V_goto 2 dX4_firstOpen_44 (by decide) ?_
        have hb := bitAt_eq (by omega) (by omega) h20
        exact ih (i + 1) _ _ (by omega) (by omega) (nI_1 i) (by rw [hinv, fi_step hi, if_neg (by simp [pOpen, hb])])
      · skip
        refine V_iload dX4_firstOpen_23 rfl ?_
        refine V_iload_n dX4_firstOpen_25 rfl ?_
        refine V_icmp_eq 41 dX4_firstOpen_26 (by decide) (fun h26 => ?_) (fun h26 => ?_)
        · skip
          refine V_iinc dX4_firstOpen_41 rfl rfl (by decide) ?_
          refine V_goto 2 dX4_firstOpen_44 (by decide) ?_
          have hb := nI_inj1024 (or_lt hs hi) hs h26
          exact ih (i + 1) _ _ (by omega) (by omega) (nI_1 i) (by rw [hinv, fi_step hi, if_neg (by simp [pOpen, hb])])
        · skip
          refine V_aload_n dX4_firstOpen_29 rfl ?_
          refine V_iload dX4_firstOpen_30 rfl ?_
          refine V_rdV (8) mw_X1_firstBroken mv_X4_25 dX4_firstOpen_32 (ct_X1_firstBroken hw _ hn hN) hw.p8 rfl rfl rfl (Nat.le_of_ble_eq_true rfl) (by decide) (by decide) (by decide) (by decide) ?_
          refine V_iconst (v := -1) dX4_firstOpen_35 (by decide) ?_
          refine V_icmp_ne 41 dX4_firstOpen_36 (by decide) (fun h36 => ?_) (fun h36 => ?_)
          · skip
            refine V_iinc dX4_firstOpen_41 rfl rfl (by decide) ?_
            refine V_goto 2 dX4_firstOpen_44 (by decide) ?_
            exact ih (i + 1) _ _ (by omega) (by omega) (nI_1 i) (by rw [hinv, fi_step hi, if_neg (by simp [pOpen, h36])])
          · skip
            refine V_iload_n dX4_firstOpen_39 rfl ?_
            refine V_iret dX4_firstOpen_40 rfl (by decide) (by decide) ?_
            have hb := bitAt_ne (by omega) (by omega) h20
            have hb2 : ¬ s ||| 2 ^ i = s := fun z => h26 (by rw [z])
            exact ⟨by rw [hinv, fi_step hi, if_pos (by simp [pOpen, hb, hb2, h36])], rfl⟩
set_option maxHeartbeats 4000000 in
set_option maxRecDepth 20000 in
theorem ct_X4_firstOpen (hw : WF E ad el g w0 ws) {n : Nat} (hn : g 8 7 = nI n) (hN : n ≤ 30) {G s : Nat} (hG : G < 1024) (hs : s < 1024) : Ct E yX4_firstOpen cX4_firstOpen 5 (some (.int)) 1 0 0 [.ref (ad 8), .int (nI G), .int (nI s)] ws (fun r w => r = some (.int (fi (pOpen g n G s) 10 0)) ∧ w = ws) := by
  refine Ct_of mw_X4_firstOpen rfl (Nat.le_of_ble_eq_true rfl) ?_
  refine V_iconst (v := 0) dX4_firstOpen_0 (by decide) ?_
  refine V_istore_n dX4_firstOpen_1 (by decide) ?_
  exact lp_X4_firstOpen hw hn hN hG hs 11 0 _ _ (by decide) (by decide) rfl rfl
set_option maxHeartbeats 4000000 in
set_option maxRecDepth 20000 in
theorem pl_end {n : Nat} (hn : g 8 7 = nI n) (hN : n ≤ 30) {G : Nat} (hG : G < 1024) {f : Nat → Int32} {s : Option Nat} (hw : WF E ad el (va_up g 19 f) w0 ws) (hp : plan g n G = (f, s)) (x : Int32) : V E yX4_plan cX4_plan 6 none 2 0 0 (fun r w => r = none ∧ WF E ad el (planG g n G) w0 w) 92 [some (.ref (ad 18)), some (.ref (ad 8)), some (.int (nI G)), some (.int (nI (popc G))), some (.int (sI s)), some (.int x)] [] ws 0 0 := by
  refine V_aload_n dX4_plan_92 rfl ?_
  refine V_iload dX4_plan_93 rfl ?_
  refine V_iconst (v := -1) dX4_plan_95 (by decide) ?_
  refine V_icmp_eq 103 dX4_plan_96 (by decide) (fun h96 => ?_) (fun h96 => ?_)
  · skip
    refine V_iconst (v := -1) dX4_plan_103 (by decide) ?_
    refine W_put (18) hw (by decide) fp_X4_15 dX4_plan_104 rfl rfl rfl rfl (Nat.le_of_ble_eq_true rfl) (fun ws1 hw1 => ?_)
    refine V_vret dX4_plan_107 rfl (by decide) (by decide) ?_
    exact ⟨rfl, by rw [planG, hp, if_pos h96]; exact hw1⟩
  · skip
    refine V_iload_n dX4_plan_99 rfl ?_
    refine V_goto 104 dX4_plan_100 (by decide) ?_
    refine W_put (18) hw (by decide) fp_X4_15 dX4_plan_104 rfl rfl rfl rfl (Nat.le_of_ble_eq_true rfl) (fun ws1 hw1 => ?_)
    refine V_vret dX4_plan_107 rfl (by decide) (by decide) ?_
    exact ⟨rfl, by rw [planG, hp, if_neg h96]; exact hw1⟩
set_option maxHeartbeats 4000000 in
set_option maxRecDepth 20000 in
theorem lp_X4_plan {n : Nat} (hn : g 8 7 = nI n) (hN : n ≤ 30) {G : Nat} (hG : G < 1024) : ∀ (k i : Nat) (x : Int32) (f : Nat → Int32) (s : Option Nat) (z : Int32) (ws : va_W), i ≤ 10 → 10 < i + k → x = nI i → z = sI s → (∀ s0, s = some s0 → s0 < 1024) → plan g n G = planL g n G (popc G) k i f s → WF E ad el (va_up g 19 f) w0 ws → V E yX4_plan cX4_plan 6 none 2 0 0 (fun r w => r = none ∧ WF E ad el (planG g n G) w0 w) 24 [some (.ref (ad 18)), some (.ref (ad 8)), some (.int (nI G)), some (.int (nI (popc G))), some (.int z), some (.int x)] [] ws 0 0 := by
  intro k
  induction k with
  | zero => intro i x f s z ws h1 h2; exact absurd h2 (by omega)
  | succ k ih =>
    intro i x f s z ws hil hin hx hz0 hsl hinv hw
    subst hx hz0
    refine V_iload dX4_plan_24 rfl ?_
    refine V_iload_n dX4_plan_26 rfl ?_
    refine V_icmp_ge 92 dX4_plan_27 (by decide) (fun h27 => ?_) (fun h27 => ?_)
    · skip
      have hi := leK (a := popc G) (b := i) (by have := popc_le G hG; omega) (by omega) h27
      refine pl_end hn hN hG hw ?_ _
      rw [hinv]
      cases s with
      | none => rfl
      | some s => rw [planL, if_pos hi]
    · skip
      refine V_iload dX4_plan_30 rfl ?_
      refine V_bipush (v := 10) dX4_plan_32 (by decide) ?_
      refine V_icmp_ge 92 dX4_plan_34 (by decide) (fun h34 => ?_) (fun h34 => ?_)
      · skip
        have := leK (a := 10) (b := i) (by decide) (by omega) h34
        have hi := nleK (a := popc G) (b := i) (by have := popc_le G hG; omega) (by omega) h27
        have := popc_le G hG
        exact absurd this (by omega)
      · skip
        refine V_iload dX4_plan_37 rfl ?_
        refine V_iconst (v := -1) dX4_plan_39 (by decide) ?_
        refine V_icmp_eq 92 dX4_plan_40 (by decide) (fun h40 => ?_) (fun h40 => ?_)
        · skip
          have hz : s = none := by
            cases s with
            | none => rfl
            | some s0 => exact absurd h40 (nI_ne_m1 (by have := hsl s0 rfl; omega))
          subst hz
          refine pl_end hn hN hG hw ?_ _
          rw [hinv]
          rfl
        · skip
          have hz : ∃ s0, s = some s0 := by
            cases s with
            | none => exact absurd rfl h40
            | some s0 => exact ⟨s0, rfl⟩
          obtain ⟨s0, rfl⟩ := hz
          have hs := hsl s0 rfl
          have hi := nleK (a := popc G) (b := i) (by have := popc_le G hG; omega) (by omega) h27
          have hpop := popc_le G hG
          refine V_aload_n dX4_plan_43 rfl ?_
          refine V_get (18) fl_X4_9 dX4_plan_44 hw.p18 rfl ?_
          refine V_iload dX4_plan_47 rfl ?_
          refine V_aload_n dX4_plan_49 rfl ?_
          refine V_iload_n dX4_plan_50 rfl ?_
          refine V_iload dX4_plan_51 rfl ?_
          refine V_rdS mw_X4_firstOpen ms_X4_30 dX4_plan_53 (ct_X4_firstOpen (g := va_up g 19 f) hw hn hN hG hs) rfl rfl (Nat.le_of_ble_eq_true rfl) (by decide) (by decide) (by decide) (by decide) ?_
          refine W_iastN (19) hw (by decide) (fun _ => rfl) dX4_plan_56 (by omega) (by decide) (fun ws1 hw1 => ?_)
          have hw1 : WF E ad el (va_up g 19 (upd f i (fi (pOpen g n G s0) 10 0))) w0 ws1 := by rw [← va_up_up g 19 f]; exact hw1
          refine V_aload_n dX4_plan_57 rfl ?_
          refine V_get (18) fl_X4_9 dX4_plan_58 hw1.p18 rfl ?_
          refine V_iload dX4_plan_61 rfl ?_
          refine V_ialdN (19) dX4_plan_63 hw1.p19 (by omega) (by decide) ?_
          rw [show va_up g 19 (upd f i (fi (pOpen g n G s0) 10 0)) 19 i = fi (pOpen g n G s0) 10 0 from pk_us]
          refine V_iconst (v := -1) dX4_plan_64 (by decide) ?_
          refine V_icmp_eq 83 dX4_plan_65 (by decide) (fun h65 => ?_) (fun h65 => ?_)
          · skip
            refine V_iconst (v := -1) dX4_plan_83 (by decide) ?_
            refine V_istore dX4_plan_84 (by decide) ?_
            refine V_iinc dX4_plan_86 rfl rfl (by decide) ?_
            refine V_goto 24 dX4_plan_89 (by decide) ?_
            exact ih (i + 1) _ (upd f i (fi (pOpen g n G s0) 10 0)) none _ _ (by omega) (by omega) (nI_1 i) rfl (fun _ h => by cases h) (by rw [hinv, planL, if_neg (by omega), if_pos h65, h65]; cases k with
              | zero => rfl
              | succ k => rfl) hw1
          · skip
            refine V_iload dX4_plan_68 rfl ?_
            refine V_iconst (v := 1) dX4_plan_70 (by decide) ?_
            refine V_aload_n dX4_plan_71 rfl ?_
            refine V_get (18) fl_X4_9 dX4_plan_72 hw1.p18 rfl ?_
            refine V_iload dX4_plan_75 rfl ?_
            refine V_ialdN (19) dX4_plan_77 hw1.p19 (by omega) (by decide) ?_
            rw [show va_up g 19 (upd f i (fi (pOpen g n G s0) 10 0)) 19 i = fi (pOpen g n G s0) 10 0 from pk_us]
            refine V_ishl dX4_plan_78 ?_
            refine V_ior dX4_plan_79 ?_
            refine V_goto 84 dX4_plan_80 (by decide) ?_
            refine V_istore dX4_plan_84 (by decide) ?_
            refine V_iinc dX4_plan_86 rfl rfl (by decide) ?_
            refine V_goto 24 dX4_plan_89 (by decide) ?_
            obtain ⟨q, -, hq, hqp, eq⟩ : ∃ q, 0 ≤ q ∧ q < 0 + 10 ∧ pOpen g n G s0 q = true ∧ fi (pOpen g n G s0) 10 0 = nI q := by
              rcases fi_some (P := pOpen g n G s0) 10 0 with h | h
              · exact absurd h h65
              · exact h
            exact ih (i + 1) _ (upd f i (fi (pOpen g n G s0) 10 0)) (some (s0 ||| 2 ^ q)) _ _ (by omega) (by omega) (nI_1 i) (by rw [eq, shl1 q (by omega)]; exact nx_or s0 (2 ^ q)) (fun s1 h => by cases h; exact or_lt hs (by omega)) (by rw [hinv, planL, if_neg (by omega), if_neg h65, eq, nI_clamp (by omega)]) hw1
set_option maxHeartbeats 4000000 in
set_option maxRecDepth 20000 in
theorem ct_X4_plan (hw : Wd E ad el g ws) {n : Nat} (hn : g 8 7 = nI n) (hN : n ≤ 30) {G : Nat} (hG : G < 1024) : Ct E yX4_plan cX4_plan 6 none 2 0 0 [.ref (ad 18), .ref (ad 8), .int (nI G)] ws (fun r w => r = none ∧ WF E ad el (planG g n G) ws w) := by
  refine Ct_of mw_X4_plan rfl (Nat.le_of_ble_eq_true rfl) ?_
  have hw := WF.rf hw
  refine V_iload_n dX4_plan_0 rfl ?_
  refine V_rdS mw_J6_bitCount_0f7a4 ms_X4_19 dX4_plan_1 (ct_bitCount hG) rfl rfl (Nat.le_of_ble_eq_true rfl) (by decide) (by decide) (by decide) (by decide) ?_
  refine V_istore_n dX4_plan_4 (by decide) ?_
  refine V_aload_n dX4_plan_5 rfl ?_
  refine V_iconst (v := 0) dX4_plan_6 (by decide) ?_
  refine V_rdV (8) mw_X1_firstBroken mv_X4_25 dX4_plan_7 (ct_X1_firstBroken hw 0 hn hN) hw.p8 rfl rfl rfl (Nat.le_of_ble_eq_true rfl) (by decide) (by decide) (by decide) (by decide) ?_
  refine V_iconst (v := -1) dX4_plan_10 (by decide) ?_
  refine V_icmp_ne 18 dX4_plan_11 (by decide) (fun h11 => ?_) (fun h11 => ?_)
  · skip
    refine V_iconst (v := -1) dX4_plan_18 (by decide) ?_
    refine V_istore dX4_plan_19 (by decide) ?_
    refine V_iconst (v := 0) dX4_plan_21 (by decide) ?_
    refine V_istore dX4_plan_22 (by decide) ?_
    exact lp_X4_plan hn hN hG 11 0 _ (g 19) none _ ws (by decide) (by decide) rfl rfl (fun _ h => by cases h) (by rw [plan, if_neg h11]) (by rw [va_up_id]; exact hw)
  · skip
    refine V_iconst (v := 0) dX4_plan_14 (by decide) ?_
    refine V_goto 19 dX4_plan_15 (by decide) ?_
    refine V_istore dX4_plan_19 (by decide) ?_
    refine V_iconst (v := 0) dX4_plan_21 (by decide) ?_
    refine V_istore dX4_plan_22 (by decide) ?_
    exact lp_X4_plan hn hN hG 11 0 _ (g 19) (some 0) _ ws (by decide) (by decide) rfl rfl (fun _ h => by cases h; decide) (by rw [plan, if_pos h11]) (by rw [va_up_id]; exact hw)
end RTE
end
section
/-! ===== Hunt (20) ===== -/
/-- a set without another -/
def dif (a b : Nat) : Nat := a ^^^ (a &&& b)
theorem nx_dif (a b : Nat) : nI a &&& (nI b ^^^ -1) = nI (dif a b) := by
  apply Int32.toBitVec_inj.1
  show BitVec.ofNat 32 a &&& (BitVec.ofNat 32 b ^^^ BitVec.allOnes 32) = BitVec.ofNat 32 (a ^^^ (a &&& b))
  apply BitVec.eq_of_getLsbD_eq
  intro i hi
  simp only [BitVec.getLsbD_and, BitVec.getLsbD_xor, BitVec.getLsbD_ofNat, BitVec.getLsbD_allOnes, Nat.testBit_xor, Nat.testBit_and, hi, decide_true, Bool.true_and]
  cases a.testBit i <;> cases b.testBit i <;> rfl
theorem dif_lt {a b : Nat} (ha : a < 1024) : dif a b < 1024 := Nat.xor_lt_two_pow (n := 10) ha (Nat.lt_of_le_of_lt Nat.and_le_left ha)
theorem dif_bit (a b i : Nat) : (dif a b).testBit i = (a.testBit i && !b.testBit i) := by
  unfold dif
  rw [Nat.testBit_xor, Nat.testBit_and]
  cases a.testBit i <;> cases b.testBit i <;> rfl
/-- a set without its lowest part -/
def dropLow (S : Nat) : Nat := S &&& (S - 1)
theorem dropLow_I : ∀ S, S < 1024 → nI S &&& (lowI (nI S) ^^^ -1) = nI (dropLow S) := by decide +kernel
theorem dropLow_lt {S : Nat} (h : S < 1024) : dropLow S < 1024 := Nat.lt_of_le_of_lt Nat.and_le_left h
def wl : Nat → Nat → Nat
  | 0, S => S
  | k + 1, S => wl k (dropLow S)
theorem wl_lt : ∀ (k : Nat) {S : Nat}, S < 1024 → wl k S < 1024
  | 0, _, h => h
  | k + 1, _, h => wl_lt k (dropLow_lt h)
/-- is a set red -/
def redB (g : Nat → Nat → Int32) (nT S : Nat) : Bool := !decide (fi (pRed (g 17) (nI S)) nT 0 = -1)
/-- piece by piece from piece i on, R the parts that are left: what is red without a piece, and how many runs -/
def wpL (g : Nat → Nat → Int32) (nT S n : Nat) : Nat → Nat → Nat → Nat → Option Nat × Nat
  | 0, _, _, c => (none, c)
  | k + 1, i, R, c => if redB g nT (dif S (dif R (wl (popc S / n + if i < popc S % n then 1 else 0) R))) = true then (some (dif S (dif R (wl (popc S / n + if i < popc S % n then 1 else 0) R))), c + 1)
    else wpL g nT S n k (i + 1) (wl (popc S / n + if i < popc S % n then 1 else 0) R) (c + 1)
/-- the hunt: x, the number of pieces, over, the runs -/
def foL (g : Nat → Nat → Int32) (nT : Nat) : Nat → Nat → Nat → Bool → Nat → Nat × Nat
  | 0, S, _, _, c => (S, c)
  | k + 1, S, n, ov, c => if ov = true then (S, c) else if popc S ≤ 1 then (S, c) else
    match wpL g nT S n n 0 S c with
    | (some S2, c2) => foL g nT k S2 (if n - 1 < 2 then 2 else n - 1) false c2
    | (none, c2) => foL g nT k S (if popc S < n * 2 then popc S else n * 2) (decide (popc S ≤ n)) c2
def hunt (g : Nat → Nat → Int32) (nT S : Nat) : Nat × Nat := if redB g nT S = true then foL g nT 1000 S 2 false 1 else (0, 1)
def setH (g : Nat → Nat → Int32) (S c : Nat) : Nat → Nat → Int32 := va_up g 20 (upd (upd (g 20) 0 (nI S)) 1 (nI c))
theorem setH_c (g : Nat → Nat → Int32) (S c c2 : Nat) (x : Int32) (hx : x = nI c2) : va_up (setH g S c) 20 (upd ((setH g S c) 20) 1 x) = setH g S c2 := by
  subst hx
  show va_up (va_up g 20 _) 20 (upd (upd (upd (g 20) 0 (nI S)) 1 (nI c)) 1 (nI c2)) = _
  rw [upd_upd, va_up_up]
  rfl
theorem setH_S (g : Nat → Nat → Int32) (S c S2 : Nat) (x : Int32) (hx : x = nI S2) : va_up (setH g S c) 20 (upd ((setH g S c) 20) 0 x) = setH g S2 c := by
  subst hx
  show va_up (va_up g 20 _) 20 (upd (upd (upd (g 20) 0 (nI S)) 1 (nI c)) 0 (nI S2)) = _
  rw [va_up_up]
  unfold setH
  congr 1
  funext j
  unfold upd
  by_cases h0 : j = 0
  · subst h0; simp
  · by_cases h1 : j = 1
    · subst h1; simp
    · simp [h0, h1]
section HNT
variable {E : VE} {ad : Nat → Nat} {el : Nat} {g : Nat → Nat → Int32} {w0 ws : va_W} {nT : Nat}
set_option maxHeartbeats 4000000 in
set_option maxRecDepth 20000 in
theorem ct_X0_isRed {x c : Nat} (hw : Wd E ad el (setH g x c) ws) (hT : g 16 1 = nI nT) (hT12 : nT ≤ 12) (S : Nat) : Ct E yX0_isRed cX0_isRed 3 (some (.boolean)) 1 0 0 [.ref (ad 20), .ref (ad 16), .int (nI S)] ws (fun r w => r = some (.int (bI (redB g nT S))) ∧ WF E ad el (setH g x (c + 1)) ws w) := by
  refine Ct_of mw_X0_isRed rfl (Nat.le_of_ble_eq_true rfl) ?_
  have hw := WF.rf hw
  refine V_aload_n dX0_isRed_0 rfl ?_
  refine V_dup dX0_isRed_1 rfl ?_
  refine V_get (20) fl_X0_9 dX0_isRed_2 hw.p20 rfl ?_
  refine V_iconst (v := 1) dX0_isRed_5 (by decide) ?_
  refine V_iadd dX0_isRed_6 ?_
  refine W_put (20) hw (by decide) fp_X0_9 dX0_isRed_7 rfl rfl rfl rfl (Nat.le_of_ble_eq_true rfl) (fun ws1 hw1 => ?_)
  rw [setH_c g x c (c + 1) _ (show setH g x c 20 1 + 1 = nI (c + 1) from nI_1 c)] at hw1
  refine V_aload_n dX0_isRed_10 rfl ?_
  refine V_iload_n dX0_isRed_11 rfl ?_
  refine V_rdV (16) mw_X5_firstRed mv_X0_41 dX0_isRed_12 (ct_X5_firstRed hw1 (nI S) hT hT12) hw1.p16 rfl rfl rfl (Nat.le_of_ble_eq_true rfl) (by decide) (by decide) (by decide) (by decide) ?_
  refine V_iconst (v := -1) dX0_isRed_15 (by decide) ?_
  refine V_icmp_eq 23 dX0_isRed_16 (by decide) (fun h16 => ?_) (fun h16 => ?_)
  · skip
    refine V_iconst (v := 0) dX0_isRed_23 (by decide) ?_
    refine V_zret dX0_isRed_24 rfl (by first | exact Or.inl rfl | exact Or.inr rfl) (by decide) (by decide) ?_
    have h17 : fi (pRed (g 17) (nI S)) nT 0 = -1 := h16
    exact ⟨by rw [redB, decide_eq_true h17]; rfl, hw1⟩
  · skip
    refine V_iconst (v := 1) dX0_isRed_19 (by decide) ?_
    refine V_goto 24 dX0_isRed_20 (by decide) ?_
    refine V_zret dX0_isRed_24 rfl (by first | exact Or.inl rfl | exact Or.inr rfl) (by decide) (by decide) ?_
    have h17 : ¬ fi (pRed (g 17) (nI S)) nT 0 = -1 := h16
    exact ⟨by rw [redB, decide_eq_false h17]; rfl, hw1⟩
set_option maxHeartbeats 4000000 in
set_option maxRecDepth 20000 in
theorem lp_X0_withoutLowest {S many : Nat} (hm : many ≤ 1000)  : ∀ (k i : Nat) (x z : Int32) (R : Nat), i ≤ many → many < i + k → x = nI i → z = nI R → R < 1024 → wl many S = wl (many - i) R → V E yX0_withoutLowest cX0_withoutLowest 4 (some (.int)) 1 0 0 (fun r w => r = some (.int (nI (wl many S))) ∧ w = ws) 4 [some (.int (nI S)), some (.int (nI many)), some (.int z), some (.int x)] [] ws 0 0 := by
  intro k
  induction k with
  | zero => intro i x z R h1 h2; exact absurd h2 (by omega)
  | succ k ih =>
    intro i x z R hil hin hx hz hR hinv
    subst hx hz
    refine V_iload_n dX0_withoutLowest_4 rfl ?_
    refine V_iload_n dX0_withoutLowest_5 rfl ?_
    refine V_icmp_ge 24 dX0_withoutLowest_6 (by decide) (fun h6 => ?_) (fun h6 => ?_)
    · skip
      refine V_iload_n dX0_withoutLowest_24 rfl ?_
      refine V_iret dX0_withoutLowest_25 rfl (by decide) (by decide) ?_
      have hi := leK (a := many) (b := i) (by omega) (by omega) h6
      exact ⟨by rw [hinv, show many - i = 0 by omega, wl], rfl⟩
    · skip
      have hi := nleK (a := many) (b := i) (by omega) (by omega) h6
      refine V_iload_n dX0_withoutLowest_9 rfl ?_
      refine V_iload_n dX0_withoutLowest_10 rfl ?_
      refine V_rdS mw_J6_lowestOneBit_0f7a4 ms_X0_49 dX0_withoutLowest_11 (ct_lowestOneBit _) rfl rfl (Nat.le_of_ble_eq_true rfl) (by decide) (by decide) (by decide) (by decide) ?_
      refine V_iconst (v := -1) dX0_withoutLowest_14 (by decide) ?_
      refine V_ixor dX0_withoutLowest_15 ?_
      refine V_iand dX0_withoutLowest_16 ?_
      rw [dropLow_I R hR]
      refine V_istore_n dX0_withoutLowest_17 (by decide) ?_
      refine V_iinc dX0_withoutLowest_18 rfl rfl (by decide) ?_
      refine V_goto 4 dX0_withoutLowest_21 (by decide) ?_
      exact ih (i + 1) _ _ _ (by omega) (by omega) (nI_1 i) rfl (dropLow_lt hR) (by rw [hinv, show many - i = (many - (i + 1)) + 1 by omega, wl])
set_option maxHeartbeats 4000000 in
set_option maxRecDepth 20000 in
theorem ct_X0_withoutLowest {S many : Nat} (hS : S < 1024) (hm : many ≤ 1000) : Ct E yX0_withoutLowest cX0_withoutLowest 4 (some (.int)) 1 0 0 [.int (nI S), .int (nI many)] ws (fun r w => r = some (.int (nI (wl many S))) ∧ w = ws) := by
  refine Ct_of mw_X0_withoutLowest rfl (Nat.le_of_ble_eq_true rfl) ?_
  refine V_iload_n dX0_withoutLowest_0 rfl ?_
  refine V_istore_n dX0_withoutLowest_1 (by decide) ?_
  refine V_iconst (v := 0) dX0_withoutLowest_2 (by decide) ?_
  refine V_istore_n dX0_withoutLowest_3 (by decide) ?_
  exact lp_X0_withoutLowest hm (many + 1) 0 _ _ S (Nat.zero_le _) (by omega) rfl rfl hS rfl
set_option maxHeartbeats 4000000 in
set_option maxRecDepth 20000 in
theorem wp_mid (hT : g 16 1 = nI nT) (hT12 : nT ≤ 12) {S n : Nat} {i R c mm : Nat} (hR : R < 1024) (hmm : mm ≤ 1000) (z7 z8 : Option Value) {P : Option Value → va_W → Prop} (hw : WF E ad el (setH g S c) w0 ws) (kr : redB g nT (dif S (dif R (wl mm R))) = true → ∀ w, WF E ad el (setH g S (c + 1)) w0 w → P (some (.int (nI (dif S (dif R (wl mm R)))))) w) (kf : redB g nT (dif S (dif R (wl mm R))) = false → ∀ w, WF E ad el (setH g S (c + 1)) w0 w → V E yX0_withoutPiece cX0_withoutPiece 9 (some (.int)) 3 0 0 P 29 [some (.ref (ad 20)), some (.ref (ad 16)), some (.int (nI n)), some (.int (nI (popc S))), some (.int (nI (popc S % n))), some (.int (nI (wl mm R))), some (.int (nI i + 1)), some (.int (nI (wl mm R))), some (.int (nI (dif R (wl mm R))))] [] w 0 0) : V E yX0_withoutPiece cX0_withoutPiece 9 (some (.int)) 3 0 0 P 53 [some (.ref (ad 20)), some (.ref (ad 16)), some (.int (nI n)), some (.int (nI (popc S))), some (.int (nI (popc S % n))), some (.int (nI R)), some (.int (nI i)), z7, z8] [.int (nI mm), .int (nI R)] ws 0 0 := by
  refine V_rdS mw_X0_withoutLowest ms_X0_46 dX0_withoutPiece_53 (ct_X0_withoutLowest hR (by omega)) rfl rfl (Nat.le_of_ble_eq_true rfl) (by decide) (by decide) (by decide) (by decide) ?_
  refine V_istore dX0_withoutPiece_56 (by decide) ?_
  refine V_iload dX0_withoutPiece_58 rfl ?_
  refine V_iload dX0_withoutPiece_60 rfl ?_
  refine V_iconst (v := -1) dX0_withoutPiece_62 (by decide) ?_
  refine V_ixor dX0_withoutPiece_63 ?_
  refine V_iand dX0_withoutPiece_64 ?_
  rw [nx_dif]
  refine V_istore dX0_withoutPiece_65 (by decide) ?_
  refine V_aload_n dX0_withoutPiece_67 rfl ?_
  refine V_aload_n dX0_withoutPiece_68 rfl ?_
  refine V_aload_n dX0_withoutPiece_69 rfl ?_
  refine V_get (20) fl_X0_19 dX0_withoutPiece_70 hw.p20 rfl ?_
  refine V_iload dX0_withoutPiece_73 rfl ?_
  refine V_iconst (v := -1) dX0_withoutPiece_75 (by decide) ?_
  refine V_ixor dX0_withoutPiece_76 ?_
  refine V_iand dX0_withoutPiece_77 ?_
  rw [show (setH g S c) 20 0 = nI S from rfl, nx_dif]
  refine V_callV (20) mw_X0_isRed mv_X0_15 dX0_withoutPiece_78 (ct_X0_isRed hw.1 hT hT12 (dif S (dif R (wl mm R)))) hw.p20 rfl rfl rfl (Nat.le_of_ble_eq_true rfl) (by decide) (by decide) (by decide) (by decide) (fun r78 ws1 hp78 => ?_)
  obtain ⟨rfl, hw1⟩ := hp78
  have hw1 := hw.trans hw1
  refine V_if_eq 94 dX0_withoutPiece_81 (by decide) (fun h81 => ?_) (fun h81 => ?_)
  · skip
    refine V_iload dX0_withoutPiece_94 rfl ?_
    refine V_istore dX0_withoutPiece_96 (by decide) ?_
    refine V_iinc dX0_withoutPiece_98 rfl rfl (by decide) ?_
    refine V_goto 29 dX0_withoutPiece_101 (by decide) ?_
    have e := bI_0 h81
    exact kf e ws1 hw1
  · skip
    refine V_aload_n dX0_withoutPiece_84 rfl ?_
    refine V_get (20) fl_X0_19 dX0_withoutPiece_85 hw1.p20 rfl ?_
    refine V_iload dX0_withoutPiece_88 rfl ?_
    refine V_iconst (v := -1) dX0_withoutPiece_90 (by decide) ?_
    refine V_ixor dX0_withoutPiece_91 ?_
    refine V_iand dX0_withoutPiece_92 ?_
    rw [show (setH g S (c + 1)) 20 0 = nI S from rfl, nx_dif]
    refine V_iret dX0_withoutPiece_93 rfl (by decide) (by decide) ?_
    have e := bI_1 h81
    exact kr e ws1 hw1
set_option maxHeartbeats 4000000 in
set_option maxRecDepth 20000 in
theorem lp_X0_withoutPiece (hT : g 16 1 = nI nT) (hT12 : nT ≤ 12) {S n : Nat} (hS : S < 1024) (hn1 : 1 ≤ n) (hn : n ≤ 1000) {c0 : Nat} : ∀ (k i : Nat) (x z : Int32) (R c : Nat) (z7 z8 : Option Value) (ws : va_W), i ≤ n → n < i + k → x = nI i → z = nI R → R < 1024 → wpL g nT S n n 0 S c0 = wpL g nT S n (n - i) i R c → WF E ad el (setH g S c) w0 ws → V E yX0_withoutPiece cX0_withoutPiece 9 (some (.int)) 3 0 0 (fun r w => r = some (.int (sI (wpL g nT S n n 0 S c0).1)) ∧ WF E ad el (setH g S (wpL g nT S n n 0 S c0).2) w0 w) 29 [some (.ref (ad 20)), some (.ref (ad 16)), some (.int (nI n)), some (.int (nI (popc S))), some (.int (nI (popc S % n))), some (.int z), some (.int x), z7, z8] [] ws 0 0 := by
  intro k
  induction k with
  | zero => intro i x z R c z7 z8 ws h1 h2; exact absurd h2 (by omega)
  | succ k ih =>
    intro i x z R c z7 z8 ws hil hin hx hz hR hinv hw
    subst hx hz
    refine V_iload dX0_withoutPiece_29 rfl ?_
    refine V_iload_n dX0_withoutPiece_31 rfl ?_
    refine V_icmp_ge 104 dX0_withoutPiece_32 (by decide) (fun h32 => ?_) (fun h32 => ?_)
    · skip
      refine V_iconst (v := -1) dX0_withoutPiece_104 (by decide) ?_
      refine V_iret dX0_withoutPiece_105 rfl (by decide) (by decide) ?_
      have hi : i = n := by have := leK (a := n) (b := i) (by omega) (by omega) h32; omega
      subst hi
      rw [hinv, Nat.sub_self]
      exact ⟨rfl, hw⟩
    · skip
      have hi := nleK (a := n) (b := i) (by omega) (by omega) h32
      have hpop := popc_le S hS
      refine V_iload dX0_withoutPiece_35 rfl ?_
      refine V_iload_n dX0_withoutPiece_37 rfl ?_
      refine V_iload_n dX0_withoutPiece_38 rfl ?_
      refine V_idiv dX0_withoutPiece_39 (nI_ne0 (by omega) (by omega)) ?_
      rw [pk_div (by omega) (by omega) (by omega)]
      refine V_iload dX0_withoutPiece_40 rfl ?_
      refine V_iload dX0_withoutPiece_42 rfl ?_
      refine V_icmp_ge 51 dX0_withoutPiece_44 (by decide) (fun h44 => ?_) (fun h44 => ?_)
      · skip
        refine V_iconst (v := 0) dX0_withoutPiece_51 (by decide) ?_
        refine V_iadd dX0_withoutPiece_52 ?_
        have hrem : popc S % n < n := Nat.mod_lt _ (by omega)
        have hc := leK (a := popc S % n) (b := i) (by omega) (by omega) h44
        rw [show nI (popc S / n) + (0 : Int32) = nI (popc S / n + 0) from nI_add (popc S / n) 0]
        have hq : popc S / n ≤ popc S := Nat.div_le_self _ _
        have emm : popc S / n + 0 = popc S / n + (if i < popc S % n then 1 else 0) := by rw [if_neg (by omega)]
        refine wp_mid hT hT12 hR (by omega) _ _ hw (fun e w hw => ?_) (fun e w hw => ?_)
        · rw [emm] at e ⊢
          rw [hinv, show n - i = (n - (i + 1)) + 1 by omega, wpL, if_pos e]
          exact ⟨rfl, hw⟩
        · rw [emm] at e ⊢
          exact ih (i + 1) _ _ _ (c + 1) _ _ _ (by omega) (by omega) (nI_1 i) rfl (wl_lt _ hR) (by rw [hinv, show n - i = (n - (i + 1)) + 1 by omega, wpL, if_neg (by rw [e]; decide)]) hw
      · skip
        refine V_iconst (v := 1) dX0_withoutPiece_47 (by decide) ?_
        refine V_goto 52 dX0_withoutPiece_48 (by decide) ?_
        refine V_iadd dX0_withoutPiece_52 ?_
        have hrem : popc S % n < n := Nat.mod_lt _ (by omega)
        have hc := nleK (a := popc S % n) (b := i) (by omega) (by omega) h44
        rw [show nI (popc S / n) + (1 : Int32) = nI (popc S / n + 1) from nI_add (popc S / n) 1]
        have hq : popc S / n ≤ popc S := Nat.div_le_self _ _
        have emm : popc S / n + 1 = popc S / n + (if i < popc S % n then 1 else 0) := by rw [if_pos (by omega)]
        refine wp_mid hT hT12 hR (by omega) _ _ hw (fun e w hw => ?_) (fun e w hw => ?_)
        · rw [emm] at e ⊢
          rw [hinv, show n - i = (n - (i + 1)) + 1 by omega, wpL, if_pos e]
          exact ⟨rfl, hw⟩
        · rw [emm] at e ⊢
          exact ih (i + 1) _ _ _ (c + 1) _ _ _ (by omega) (by omega) (nI_1 i) rfl (wl_lt _ hR) (by rw [hinv, show n - i = (n - (i + 1)) + 1 by omega, wpL, if_neg (by rw [e]; decide)]) hw
set_option maxHeartbeats 4000000 in
set_option maxRecDepth 20000 in
theorem ct_X0_withoutPiece {c0 : Nat} (hT : g 16 1 = nI nT) (hT12 : nT ≤ 12) {S n : Nat} (hS : S < 1024) (hn1 : 1 ≤ n) (hn : n ≤ 1000) (hw : Wd E ad el (setH g S c0) ws) : Ct E yX0_withoutPiece cX0_withoutPiece 9 (some (.int)) 3 0 0 [.ref (ad 20), .ref (ad 16), .int (nI n)] ws (fun r w => r = some (.int (sI (wpL g nT S n n 0 S c0).1)) ∧ WF E ad el (setH g S (wpL g nT S n n 0 S c0).2) ws w) := by
  refine Ct_of mw_X0_withoutPiece rfl (Nat.le_of_ble_eq_true rfl) ?_
  have hw := WF.rf hw
  refine V_iload_n dX0_withoutPiece_0 rfl ?_
  refine V_iconst (v := 1) dX0_withoutPiece_1 (by decide) ?_
  refine V_icmp_ge 7 dX0_withoutPiece_2 (by decide) (fun h2 => ?_) (fun h2 => absurd (nI_leI (a := 1) (b := n) (by decide) (by omega) |>.mpr hn1) h2)
  refine V_aload_n dX0_withoutPiece_7 rfl ?_
  refine V_get (20) fl_X0_19 dX0_withoutPiece_8 hw.p20 rfl ?_
  rw [show (setH g S c0) 20 0 = nI S from rfl]
  refine V_rdS mw_J6_bitCount_0f7a4 ms_X0_22 dX0_withoutPiece_11 (ct_bitCount hS) rfl rfl (Nat.le_of_ble_eq_true rfl) (by decide) (by decide) (by decide) (by decide) ?_
  refine V_istore_n dX0_withoutPiece_14 (by decide) ?_
  refine V_iload_n dX0_withoutPiece_15 rfl ?_
  refine V_iload_n dX0_withoutPiece_16 rfl ?_
  refine V_irem dX0_withoutPiece_17 (nI_ne0 (by omega) (by omega)) ?_
  rw [pk_rem (by have := popc_le S hS; omega) (by omega) (by omega)]
  refine V_istore dX0_withoutPiece_18 (by decide) ?_
  refine V_aload_n dX0_withoutPiece_20 rfl ?_
  refine V_get (20) fl_X0_19 dX0_withoutPiece_21 hw.p20 rfl ?_
  refine V_istore dX0_withoutPiece_24 (by decide) ?_
  refine V_iconst (v := 0) dX0_withoutPiece_26 (by decide) ?_
  refine V_istore dX0_withoutPiece_27 (by decide) ?_
  exact lp_X0_withoutPiece hT hT12 hS hn1 hn (n + 1) 0 _ _ S _ _ _ ws (Nat.zero_le _) (by omega) rfl rfl hS rfl hw
theorem wpL_lt {S n : Nat} (hS : S < 1024) : ∀ (k i R c : Nat) (S2 : Nat), (wpL g nT S n k i R c).1 = some S2 → S2 < 1024
  | 0, _, _, _, _, h => by cases h
  | k + 1, i, R, c, S2, h => by
    unfold wpL at h
    generalize (popc S / n + if i < popc S % n then 1 else 0) = mm at h
    split at h
    · cases h
      exact dif_lt hS
    · exact wpL_lt hS k _ _ _ S2 h
set_option maxHeartbeats 4000000 in
set_option maxRecDepth 20000 in
theorem lp_X0_follow (hT : g 16 1 = nI nT) (hT12 : nT ≤ 12) {S0 : Nat} (hS0 : S0 < 1024) : ∀ (k i : Nat) (x xn xo : Int32) (n S : Nat) (ov : Bool) (c : Nat) (z6 z7 : Option Value) (ws : va_W), i + k = 1000 → x = nI i → xn = nI n → xo = bI ov → S < 1024 → 1 ≤ n → n ≤ 1000 → hunt g nT S0 = foL g nT k S n ov c → WF E ad el (setH g S c) w0 ws → V E yX0_follow cX0_follow 8 none 4 0 0 (fun r w => r = none ∧ WF E ad el (setH g (hunt g nT S0).1 (hunt g nT S0).2) w0 w) 31 [some (.ref (ad 20)), some (.ref (ad 16)), some (.int (nI S0)), some (.int xn), some (.int xo), some (.int x), z6, z7] [] ws 0 0 := by
  intro k
  induction k using Nat.strongRecOn with
  | _ k ih =>
  intro i x xn xo n S ov c z6 z7 ws hik hx hxn hxo hS hn1 hn hinv hw
  subst hx hxn hxo
  refine V_iload dX0_follow_31 rfl ?_
  refine V_sipush (v := 1000) dX0_follow_33 (by decide) ?_
  refine V_icmp_ge 123 dX0_follow_36 (by decide) (fun h36 => ?_) (fun h36 => ?_)
  · skip
    refine V_vret dX0_follow_123 rfl (by decide) (by decide) ?_
    have hk0 : k = 0 := by
      have := leK (a := 1000) (b := i) (by decide) (by omega) h36
      omega
    subst hk0
    rw [hinv]
    exact ⟨rfl, by unfold foL; exact hw⟩
  · skip
    refine V_iload dX0_follow_39 rfl ?_
    refine V_if_ne 123 dX0_follow_41 (by decide) (fun h41 => ?_) (fun h41 => ?_)
    · skip
      refine V_vret dX0_follow_123 rfl (by decide) (by decide) ?_
      have e := bI_1 h41
      rw [hinv]
      exact ⟨rfl, by cases k with
        | zero => exact hw
        | succ k => rw [foL, if_pos e]; exact hw⟩
    · skip
      refine V_aload_n dX0_follow_44 rfl ?_
      refine V_get (20) fl_X0_19 dX0_follow_45 hw.p20 rfl ?_
      rw [show (setH g S c) 20 0 = nI S from rfl]
      refine V_rdS mw_J6_bitCount_0f7a4 ms_X0_22 dX0_follow_48 (ct_bitCount hS) rfl rfl (Nat.le_of_ble_eq_true rfl) (by decide) (by decide) (by decide) (by decide) ?_
      refine V_iconst (v := 1) dX0_follow_51 (by decide) ?_
      refine V_icmp_le 123 dX0_follow_52 (by decide) (fun h52 => ?_) (fun h52 => ?_)
      · skip
        refine V_vret dX0_follow_123 rfl (by decide) (by decide) ?_
        have e := bI_0 h41
        have hp1 := leK (a := popc S) (b := 1) (by have := popc_le S hS; omega) (by decide) h52
        rw [hinv]
        exact ⟨rfl, by cases k with
          | zero => exact hw
          | succ k => rw [foL, if_neg (by rw [e]; decide), if_pos hp1]; exact hw⟩
      · skip
        have hp1 := nleK (a := popc S) (b := 1) (by have := popc_le S hS; omega) (by decide) h52
        refine V_aload_n dX0_follow_55 rfl ?_
        refine V_aload_n dX0_follow_56 rfl ?_
        refine V_iload_n dX0_follow_57 rfl ?_
        refine V_callV (20) mw_X0_withoutPiece mv_X0_28 dX0_follow_58 (ct_X0_withoutPiece hT hT12 hS hn1 hn hw.1) hw.p20 rfl rfl rfl (Nat.le_of_ble_eq_true rfl) (by decide) (by decide) (by decide) (by decide) (fun r58 ws1 hp58 => ?_)
        obtain ⟨rfl, hw1⟩ := hp58
        have hw1 := hw.trans hw1
        generalize hwp : wpL g nT S n n 0 S c = wp at hw1 ⊢
        obtain ⟨o, c2⟩ := wp
        dsimp only at hw1 ⊢
        refine V_istore dX0_follow_61 (by decide) ?_
        refine V_iload dX0_follow_63 rfl ?_
        refine V_iconst (v := -1) dX0_follow_65 (by decide) ?_
        refine V_icmp_eq 86 dX0_follow_66 (by decide) (fun h66 => ?_) (fun h66 => ?_)
        · skip
          refine V_aload_n dX0_follow_86 rfl ?_
          refine V_get (20) fl_X0_19 dX0_follow_87 hw1.p20 rfl ?_
          rw [show (setH g S c2) 20 0 = nI S from rfl]
          refine V_rdS mw_J6_bitCount_0f7a4 ms_X0_22 dX0_follow_90 (ct_bitCount hS) rfl rfl (Nat.le_of_ble_eq_true rfl) (by decide) (by decide) (by decide) (by decide) ?_
          refine V_istore dX0_follow_93 (by decide) ?_
          refine V_iload_n dX0_follow_95 rfl ?_
          refine V_iload dX0_follow_96 rfl ?_
          refine V_icmp_lt 105 dX0_follow_98 (by decide) (fun h98 => ?_) (fun h98 => ?_)
          · skip
            refine V_iconst (v := 0) dX0_follow_105 (by decide) ?_
            refine V_istore dX0_follow_106 (by decide) ?_
            refine V_iload_n dX0_follow_108 rfl ?_
            refine V_iconst (v := 2) dX0_follow_109 (by decide) ?_
            refine V_imul dX0_follow_110 ?_
            refine V_iload dX0_follow_111 rfl ?_
            refine V_mmin wd_mminL_X0_38 wd_mminS wd_mathI wd_mminC dX0_follow_113 (by decide) (Nat.le_of_ble_eq_true rfl) (by decide) (by decide) ?_
            refine V_istore_n dX0_follow_116 (by decide) ?_
            refine V_iinc dX0_follow_117 rfl rfl (by decide) ?_
            refine V_goto 31 dX0_follow_120 (by decide) ?_
            have e := bI_0 h41
            have hk : ∃ k0, k = k0 + 1 := ⟨k - 1, by have := nleK (a := 1000) (b := i) (by decide) (by omega) h36; omega⟩
            obtain ⟨k0, rfl⟩ := hk
            have ho : o = none := by
              cases o with
              | none => rfl
              | some S2 => exact absurd h66 (nI_ne_m1 (by have := wpL_lt hS n 0 S c S2 (by rw [hwp]); omega))
            subst ho
            have hpop := popc_le S hS
            refine ih k0 (by omega) (i + 1) _ _ _ (if popc S < n * 2 then popc S else n * 2) S (decide (popc S ≤ n)) c2 _ _ _ (by omega) (nI_1 i) ?_ ?_ hS (by split <;> omega) (by split <;> omega) (by rw [hinv, foL, if_neg (by rw [e]; decide), if_neg (by omega), hwp]) hw1
            · rw [show nI n * (2 : Int32) = nI (n * 2) from pk_mul n 2]
              by_cases q : popc S < n * 2
              · rw [if_pos q, if_pos ((nI_ltI (by omega) (by omega)).mpr q)]
              · rw [if_neg q, if_neg (fun z => q ((nI_ltI (by omega) (by omega)).mp z))]
            · rw [decide_eq_false (by have := ltK (a := n) (b := popc S) (by omega) (by omega) h98; omega)]; rfl
          · skip
            refine V_iconst (v := 1) dX0_follow_101 (by decide) ?_
            refine V_goto 106 dX0_follow_102 (by decide) ?_
            refine V_istore dX0_follow_106 (by decide) ?_
            refine V_iload_n dX0_follow_108 rfl ?_
            refine V_iconst (v := 2) dX0_follow_109 (by decide) ?_
            refine V_imul dX0_follow_110 ?_
            refine V_iload dX0_follow_111 rfl ?_
            refine V_mmin wd_mminL_X0_38 wd_mminS wd_mathI wd_mminC dX0_follow_113 (by decide) (Nat.le_of_ble_eq_true rfl) (by decide) (by decide) ?_
            refine V_istore_n dX0_follow_116 (by decide) ?_
            refine V_iinc dX0_follow_117 rfl rfl (by decide) ?_
            refine V_goto 31 dX0_follow_120 (by decide) ?_
            have e := bI_0 h41
            have hk : ∃ k0, k = k0 + 1 := ⟨k - 1, by have := nleK (a := 1000) (b := i) (by decide) (by omega) h36; omega⟩
            obtain ⟨k0, rfl⟩ := hk
            have ho : o = none := by
              cases o with
              | none => rfl
              | some S2 => exact absurd h66 (nI_ne_m1 (by have := wpL_lt hS n 0 S c S2 (by rw [hwp]); omega))
            subst ho
            have hpop := popc_le S hS
            refine ih k0 (by omega) (i + 1) _ _ _ (if popc S < n * 2 then popc S else n * 2) S (decide (popc S ≤ n)) c2 _ _ _ (by omega) (nI_1 i) ?_ ?_ hS (by split <;> omega) (by split <;> omega) (by rw [hinv, foL, if_neg (by rw [e]; decide), if_neg (by omega), hwp]) hw1
            · rw [show nI n * (2 : Int32) = nI (n * 2) from pk_mul n 2]
              by_cases q : popc S < n * 2
              · rw [if_pos q, if_pos ((nI_ltI (by omega) (by omega)).mpr q)]
              · rw [if_neg q, if_neg (fun z => q ((nI_ltI (by omega) (by omega)).mp z))]
            · rw [decide_eq_true (by have := nltK (a := n) (b := popc S) (by omega) (by omega) h98; omega)]; rfl
        · skip
          refine V_aload_n dX0_follow_69 rfl ?_
          refine V_iload dX0_follow_70 rfl ?_
          refine W_put (20) hw1 (by decide) fp_X0_19 dX0_follow_72 rfl rfl rfl rfl (Nat.le_of_ble_eq_true rfl) (fun ws2 hw2 => ?_)
          refine V_iload_n dX0_follow_75 rfl ?_
          refine V_iconst (v := 1) dX0_follow_76 (by decide) ?_
          refine V_isub dX0_follow_77 ?_
          refine V_iconst (v := 2) dX0_follow_78 (by decide) ?_
          refine V_mmax wd_mmaxL_X0_32 wd_mmaxS wd_mathI wd_mmaxC dX0_follow_79 (by decide) (Nat.le_of_ble_eq_true rfl) (by decide) (by decide) ?_
          refine V_istore_n dX0_follow_82 (by decide) ?_
          refine V_goto 117 dX0_follow_83 (by decide) ?_
          refine V_iinc dX0_follow_117 rfl rfl (by decide) ?_
          refine V_goto 31 dX0_follow_120 (by decide) ?_
          have e := bI_0 h41
          have hk : ∃ k0, k = k0 + 1 := ⟨k - 1, by have := nleK (a := 1000) (b := i) (by decide) (by omega) h36; omega⟩
          obtain ⟨k0, rfl⟩ := hk
          obtain ⟨S2, rfl⟩ : ∃ S2, o = some S2 := by
            cases o with
            | none => exact absurd rfl h66
            | some S2 => exact ⟨S2, rfl⟩
          have hS2 := wpL_lt hS n 0 S c S2 (by rw [hwp])
          rw [setH_S g S c2 S2 (sI (some S2)) rfl] at hw2
          refine ih k0 (by omega) (i + 1) _ _ _ (if n - 1 < 2 then 2 else n - 1) S2 false c2 _ _ _ (by omega) (nI_1 i) ?_ (by rw [e]) hS2 (by split <;> omega) (by split <;> omega) (by rw [hinv, foL, if_neg (by rw [e]; decide), if_neg (by omega), hwp]) hw2
          rw [show nI n - (1 : Int32) = nI (n - 1) from pk_sub (a := n) (b := 1) hn1]
          by_cases q : n - 1 < 2
          · rw [if_pos q, if_pos (show nI (n - 1) < (2 : Int32) from (nI_ltI (a := n - 1) (b := 2) (by omega) (by omega)).mpr q)]; rfl
          · rw [if_neg q, if_neg (show ¬ nI (n - 1) < (2 : Int32) from fun z => q ((nI_ltI (a := n - 1) (b := 2) (by omega) (by omega)).mp z))]
set_option maxHeartbeats 4000000 in
set_option maxRecDepth 20000 in
theorem ct_X0_follow (hw : Wd E ad el g ws) (hT : g 16 1 = nI nT) (hT12 : nT ≤ 12) {S0 : Nat} (hS0 : S0 < 1024) {x0 : Nat} (hx0 : nI x0 = g 20 0) : Ct E yX0_follow cX0_follow 8 none 4 0 0 [.ref (ad 20), .ref (ad 16), .int (nI S0)] ws (fun r w => r = none ∧ WF E ad el (setH g (hunt g nT S0).1 (hunt g nT S0).2) ws w) := by
  refine Ct_of mw_X0_follow rfl (Nat.le_of_ble_eq_true rfl) ?_
  have hw := WF.rf hw
  refine V_aload_n dX0_follow_0 rfl ?_
  refine V_iconst (v := 0) dX0_follow_1 (by decide) ?_
  refine W_put (20) hw (by decide) fp_X0_9 dX0_follow_2 rfl rfl rfl rfl (Nat.le_of_ble_eq_true rfl) (fun ws1 hw1 => ?_)
  have hw1 : WF E ad el (setH g x0 0) ws ws1 := by
    have e : va_up g 20 (upd (g 20) 1 0) = setH g x0 0 := by
      unfold setH
      congr 1
      funext j
      unfold upd
      by_cases h0 : j = 0
      · subst h0; simp [← hx0]
      · by_cases h1 : j = 1
        · subst h1; simp; rfl
        · simp [h0, h1]
    rw [← e]
    exact hw1
  refine V_aload_n dX0_follow_5 rfl ?_
  refine V_aload_n dX0_follow_6 rfl ?_
  refine V_aload_n dX0_follow_7 rfl ?_
  refine V_iload_n dX0_follow_8 rfl ?_
  refine V_callV (20) mw_X0_isRed mv_X0_15 dX0_follow_9 (ct_X0_isRed hw1.1 hT hT12 S0) hw1.p20 rfl rfl rfl (Nat.le_of_ble_eq_true rfl) (by decide) (by decide) (by decide) (by decide) (fun r9 ws2 hp9 => ?_)
  obtain ⟨rfl, hw2⟩ := hp9
  have hw2 := hw1.trans hw2
  refine V_if_eq 19 dX0_follow_12 (by decide) (fun h12 => ?_) (fun h12 => ?_)
  · skip
    refine V_iconst (v := 0) dX0_follow_19 (by decide) ?_
    refine W_put (20) hw2 (by decide) fp_X0_19 dX0_follow_20 rfl rfl rfl rfl (Nat.le_of_ble_eq_true rfl) (fun ws3 hw3 => ?_)
    refine V_iconst (v := 2) dX0_follow_23 (by decide) ?_
    refine V_istore_n dX0_follow_24 (by decide) ?_
    refine V_iconst (v := 0) dX0_follow_25 (by decide) ?_
    refine V_istore dX0_follow_26 (by decide) ?_
    refine V_iconst (v := 0) dX0_follow_28 (by decide) ?_
    refine V_istore dX0_follow_29 (by decide) ?_
    have e := bI_0 h12
    rw [setH_S _ _ _ 0 (0 : Int32) rfl] at hw3
    exact lp_X0_follow hT hT12 hS0 1000 0 _ _ _ 2 0 false 1 _ _ _ (by decide) rfl rfl rfl (by first | exact hS0 | decide) (by decide) (by decide) (by rw [hunt, if_neg (by rw [e]; decide)]; rfl) hw3
  · skip
    refine V_iload_n dX0_follow_15 rfl ?_
    refine V_goto 20 dX0_follow_16 (by decide) ?_
    refine W_put (20) hw2 (by decide) fp_X0_19 dX0_follow_20 rfl rfl rfl rfl (Nat.le_of_ble_eq_true rfl) (fun ws3 hw3 => ?_)
    refine V_iconst (v := 2) dX0_follow_23 (by decide) ?_
    refine V_istore_n dX0_follow_24 (by decide) ?_
    refine V_iconst (v := 0) dX0_follow_25 (by decide) ?_
    refine V_istore dX0_follow_26 (by decide) ?_
    refine V_iconst (v := 0) dX0_follow_28 (by decide) ?_
    refine V_istore dX0_follow_29 (by decide) ?_
    have e := bI_1 h12
    rw [setH_S _ _ _ S0 (nI S0) rfl] at hw3
    exact lp_X0_follow hT hT12 hS0 1000 0 _ _ _ 2 S0 false 1 _ _ _ (by decide) rfl rfl rfl (by first | exact hS0 | decide) (by decide) (by decide) (by rw [hunt, if_pos e]) hw3
end HNT
end
section
/-! ===== TrainDesk: its small methods ===== -/
def isVer (v : Int32) : Bool := !decide (v < 0) && !decide (1000 < v)
def isWor (v : Int32) : Bool := !decide (v < 1) && !decide (1000 < v)
def isPt (g : Nat → Nat → Int32) (p : Int32) : Bool := !decide (p < 0) && !decide (g 0 9 ≤ p)
def areP (g : Nat → Nat → Int32) (set : Int32) : Bool := decide (set &&& ((((1 : Int32) <<< (g 0 9 &&& 31)) - 1) ^^^ -1) = 0)
def cutB (g : Nat → Nat → Int32) : Bool := !decide (g 0 10 = -1)
def chB (g : Nat → Nat → Int32) (p : Int32) : Bool := cutB g && !decide ((g 0 10 >>> (p &&& 31)) &&& 1 = 0)
def mayB (g : Nat → Nat → Int32) (p v u : Int32) : Bool := cutB g && (isPt g p && (isVer v && (isWor u && (!chB g p && !decide (v = g 1 p.toNatClampNeg)))))
def lowerB (a b : Int32) : Bool := !decide (a &&& lowI (a ^^^ b) = 0)
def brkD (g : Nat → Nat → Int32) (nN : Nat) (set : Int32) : Int32 := fi (pBrk (g 14) (g 15) set) nN 0
def goesB (g : Nat → Nat → Int32) (nN nT : Nat) (set : Int32) : Bool := decide (fi (pBrk (g 14) (g 15) set) nN 0 = -1) && decide (fi (pRed (g 17) set) nT 0 = -1)
def chooseG (g : Nat → Nat → Int32) (nN S : Nat) : Nat → Nat → Int32 := planG (wTo (va_up g 0 (upd (g 0) 10 (nI S))) nN) nN S
theorem isPt_in {g : Nat → Nat → Int32} {p : Int32} {nP : Nat} (hP : g 0 9 = nI nP) (hP10 : nP ≤ 10) (h : isPt g p = true) : ∃ j, j < nP ∧ p = nI j := by
  simp only [isPt, Bool.and_eq_true, Bool.not_eq_true', decide_eq_false_iff_not] at h
  rcases pk_ix p (n := nP) (by omega) with q | q | q
  · exact absurd q h.1
  · exact absurd (by rw [hP]; exact q) h.2
  · exact q
section DK1
variable {E : VE} {ad : Nat → Nat} {el : Nat} {g : Nat → Nat → Int32} {w0 ws : va_W}
set_option maxHeartbeats 4000000 in
set_option maxRecDepth 20000 in
theorem ct_X7_isVersion (v : Int32) : Ct E yX7_isVersion cX7_isVersion 1 (some (.boolean)) 0 0 0 [.int v] ws (fun r w => r = some (.int (bI (isVer v))) ∧ w = ws) := by
  refine Ct_of mw_X7_isVersion rfl (Nat.le_of_ble_eq_true rfl) ?_
  refine V_iload_n dX7_isVersion_0 rfl ?_
  refine V_if_lt 15 dX7_isVersion_1 (by decide) (fun h1 => ?_) (fun h1 => ?_)
  · skip
    refine V_iconst (v := 0) dX7_isVersion_15 (by decide) ?_
    refine V_zret dX7_isVersion_16 rfl (by first | exact Or.inl rfl | exact Or.inr rfl) (by decide) (by decide) ?_
    exact ⟨by simp [bI, isVer, h1], rfl⟩
  · skip
    refine V_iload_n dX7_isVersion_4 rfl ?_
    refine V_sipush (v := 1000) dX7_isVersion_5 (by decide) ?_
    refine V_icmp_gt 15 dX7_isVersion_8 (by decide) (fun h8 => ?_) (fun h8 => ?_)
    · skip
      refine V_iconst (v := 0) dX7_isVersion_15 (by decide) ?_
      refine V_zret dX7_isVersion_16 rfl (by first | exact Or.inl rfl | exact Or.inr rfl) (by decide) (by decide) ?_
      exact ⟨by simp [bI, isVer, h1, h8], rfl⟩
    · skip
      refine V_iconst (v := 1) dX7_isVersion_11 (by decide) ?_
      refine V_goto 16 dX7_isVersion_12 (by decide) ?_
      refine V_zret dX7_isVersion_16 rfl (by first | exact Or.inl rfl | exact Or.inr rfl) (by decide) (by decide) ?_
      exact ⟨by simp [bI, isVer, h1, h8], rfl⟩
set_option maxHeartbeats 4000000 in
set_option maxRecDepth 20000 in
theorem ct_X7_isWorth (v : Int32) : Ct E yX7_isWorth cX7_isWorth 1 (some (.boolean)) 0 0 0 [.int v] ws (fun r w => r = some (.int (bI (isWor v))) ∧ w = ws) := by
  refine Ct_of mw_X7_isWorth rfl (Nat.le_of_ble_eq_true rfl) ?_
  refine V_iload_n dX7_isWorth_0 rfl ?_
  refine V_iconst (v := 1) dX7_isWorth_1 (by decide) ?_
  refine V_icmp_lt 16 dX7_isWorth_2 (by decide) (fun h2 => ?_) (fun h2 => ?_)
  · skip
    refine V_iconst (v := 0) dX7_isWorth_16 (by decide) ?_
    refine V_zret dX7_isWorth_17 rfl (by first | exact Or.inl rfl | exact Or.inr rfl) (by decide) (by decide) ?_
    exact ⟨by simp [bI, isWor, h2], rfl⟩
  · skip
    refine V_iload_n dX7_isWorth_5 rfl ?_
    refine V_sipush (v := 1000) dX7_isWorth_6 (by decide) ?_
    refine V_icmp_gt 16 dX7_isWorth_9 (by decide) (fun h9 => ?_) (fun h9 => ?_)
    · skip
      refine V_iconst (v := 0) dX7_isWorth_16 (by decide) ?_
      refine V_zret dX7_isWorth_17 rfl (by first | exact Or.inl rfl | exact Or.inr rfl) (by decide) (by decide) ?_
      exact ⟨by simp [bI, isWor, h2, h9], rfl⟩
    · skip
      refine V_iconst (v := 1) dX7_isWorth_12 (by decide) ?_
      refine V_goto 17 dX7_isWorth_13 (by decide) ?_
      refine V_zret dX7_isWorth_17 rfl (by first | exact Or.inl rfl | exact Or.inr rfl) (by decide) (by decide) ?_
      exact ⟨by simp [bI, isWor, h2, h9], rfl⟩
set_option maxHeartbeats 4000000 in
set_option maxRecDepth 20000 in
theorem ct_X7_isPart (hw : WF E ad el g w0 ws) (p : Int32) : Ct E yX7_isPart cX7_isPart 2 (some (.boolean)) 0 0 0 [.ref (ad 0), .int p] ws (fun r w => r = some (.int (bI (isPt g p))) ∧ w = ws) := by
  refine Ct_of mw_X7_isPart rfl (Nat.le_of_ble_eq_true rfl) ?_
  refine V_iload_n dX7_isPart_0 rfl ?_
  refine V_if_lt 16 dX7_isPart_1 (by decide) (fun h1 => ?_) (fun h1 => ?_)
  · skip
    refine V_iconst (v := 0) dX7_isPart_16 (by decide) ?_
    refine V_zret dX7_isPart_17 rfl (by first | exact Or.inl rfl | exact Or.inr rfl) (by decide) (by decide) ?_
    exact ⟨by simp [bI, isPt, h1], rfl⟩
  · skip
    refine V_iload_n dX7_isPart_4 rfl ?_
    refine V_aload_n dX7_isPart_5 rfl ?_
    refine V_get (0) fl_X7_65 dX7_isPart_6 hw.p0 rfl ?_
    refine V_icmp_ge 16 dX7_isPart_9 (by decide) (fun h9 => ?_) (fun h9 => ?_)
    · skip
      refine V_iconst (v := 0) dX7_isPart_16 (by decide) ?_
      refine V_zret dX7_isPart_17 rfl (by first | exact Or.inl rfl | exact Or.inr rfl) (by decide) (by decide) ?_
      exact ⟨by simp [bI, isPt, h1, h9], rfl⟩
    · skip
      refine V_iconst (v := 1) dX7_isPart_12 (by decide) ?_
      refine V_goto 17 dX7_isPart_13 (by decide) ?_
      refine V_zret dX7_isPart_17 rfl (by first | exact Or.inl rfl | exact Or.inr rfl) (by decide) (by decide) ?_
      exact ⟨by simp [bI, isPt, h1, h9], rfl⟩
set_option maxHeartbeats 4000000 in
set_option maxRecDepth 20000 in
theorem ct_X7_areParts (hw : WF E ad el g w0 ws) (set : Int32) : Ct E yX7_areParts cX7_areParts 2 (some (.boolean)) 0 0 0 [.ref (ad 0), .int set] ws (fun r w => r = some (.int (bI (areP g set))) ∧ w = ws) := by
  refine Ct_of mw_X7_areParts rfl (Nat.le_of_ble_eq_true rfl) ?_
  refine V_iload_n dX7_areParts_0 rfl ?_
  refine V_iconst (v := 1) dX7_areParts_1 (by decide) ?_
  refine V_aload_n dX7_areParts_2 rfl ?_
  refine V_get (0) fl_X7_65 dX7_areParts_3 hw.p0 rfl ?_
  refine V_ishl dX7_areParts_6 ?_
  refine V_iconst (v := 1) dX7_areParts_7 (by decide) ?_
  refine V_isub dX7_areParts_8 ?_
  refine V_iconst (v := -1) dX7_areParts_9 (by decide) ?_
  refine V_ixor dX7_areParts_10 ?_
  refine V_iand dX7_areParts_11 ?_
  refine V_if_ne 19 dX7_areParts_12 (by decide) (fun h12 => ?_) (fun h12 => ?_)
  · skip
    refine V_iconst (v := 0) dX7_areParts_19 (by decide) ?_
    refine V_zret dX7_areParts_20 rfl (by first | exact Or.inl rfl | exact Or.inr rfl) (by decide) (by decide) ?_
    exact ⟨by rw [areP, decide_eq_false h12]; rfl, rfl⟩
  · skip
    refine V_iconst (v := 1) dX7_areParts_15 (by decide) ?_
    refine V_goto 20 dX7_areParts_16 (by decide) ?_
    refine V_zret dX7_areParts_20 rfl (by first | exact Or.inl rfl | exact Or.inr rfl) (by decide) (by decide) ?_
    exact ⟨by rw [areP, decide_eq_true h12]; rfl, rfl⟩
set_option maxHeartbeats 4000000 in
set_option maxRecDepth 20000 in
theorem ct_X7_isCutAtHand (hw : WF E ad el g w0 ws) : Ct E yX7_isCutAtHand cX7_isCutAtHand 1 (some (.boolean)) 0 0 0 [.ref (ad 0)] ws (fun r w => r = some (.int (bI (cutB g))) ∧ w = ws) := by
  refine Ct_of mw_X7_isCutAtHand rfl (Nat.le_of_ble_eq_true rfl) ?_
  refine V_aload_n dX7_isCutAtHand_0 rfl ?_
  refine V_get (0) fl_X7_69 dX7_isCutAtHand_1 hw.p0 rfl ?_
  refine V_iconst (v := -1) dX7_isCutAtHand_4 (by decide) ?_
  refine V_icmp_eq 12 dX7_isCutAtHand_5 (by decide) (fun h5 => ?_) (fun h5 => ?_)
  · skip
    refine V_iconst (v := 0) dX7_isCutAtHand_12 (by decide) ?_
    refine V_zret dX7_isCutAtHand_13 rfl (by first | exact Or.inl rfl | exact Or.inr rfl) (by decide) (by decide) ?_
    exact ⟨by rw [cutB, decide_eq_true h5]; rfl, rfl⟩
  · skip
    refine V_iconst (v := 1) dX7_isCutAtHand_8 (by decide) ?_
    refine V_goto 13 dX7_isCutAtHand_9 (by decide) ?_
    refine V_zret dX7_isCutAtHand_13 rfl (by first | exact Or.inl rfl | exact Or.inr rfl) (by decide) (by decide) ?_
    exact ⟨by rw [cutB, decide_eq_false h5]; rfl, rfl⟩
set_option maxHeartbeats 4000000 in
set_option maxRecDepth 20000 in
theorem ct_X7_isChosen (hw : WF E ad el g w0 ws) (p : Int32) : Ct E yX7_isChosen cX7_isChosen 2 (some (.boolean)) 1 0 0 [.ref (ad 0), .int p] ws (fun r w => r = some (.int (bI (chB g p))) ∧ w = ws) := by
  refine Ct_of mw_X7_isChosen rfl (Nat.le_of_ble_eq_true rfl) ?_
  refine V_aload_n dX7_isChosen_0 rfl ?_
  refine V_rdV (0) mw_X7_isCutAtHand mv_X7_72 dX7_isChosen_1 (ct_X7_isCutAtHand hw) hw.p0 rfl rfl rfl (Nat.le_of_ble_eq_true rfl) (by decide) (by decide) (by decide) (by decide) ?_
  refine V_if_eq 22 dX7_isChosen_4 (by decide) (fun h4 => ?_) (fun h4 => ?_)
  · skip
    refine V_iconst (v := 0) dX7_isChosen_22 (by decide) ?_
    refine V_zret dX7_isChosen_23 rfl (by first | exact Or.inl rfl | exact Or.inr rfl) (by decide) (by decide) ?_
    exact ⟨by rw [chB, bI_0 h4]; rfl, rfl⟩
  · skip
    refine V_aload_n dX7_isChosen_7 rfl ?_
    refine V_get (0) fl_X7_69 dX7_isChosen_8 hw.p0 rfl ?_
    refine V_iload_n dX7_isChosen_11 rfl ?_
    refine V_ishr dX7_isChosen_12 ?_
    refine V_iconst (v := 1) dX7_isChosen_13 (by decide) ?_
    refine V_iand dX7_isChosen_14 ?_
    refine V_if_eq 22 dX7_isChosen_15 (by decide) (fun h15 => ?_) (fun h15 => ?_)
    · skip
      refine V_iconst (v := 0) dX7_isChosen_22 (by decide) ?_
      refine V_zret dX7_isChosen_23 rfl (by first | exact Or.inl rfl | exact Or.inr rfl) (by decide) (by decide) ?_
      exact ⟨by rw [chB, bI_1 h4, decide_eq_true h15]; rfl, rfl⟩
    · skip
      refine V_iconst (v := 1) dX7_isChosen_18 (by decide) ?_
      refine V_goto 23 dX7_isChosen_19 (by decide) ?_
      refine V_zret dX7_isChosen_23 rfl (by first | exact Or.inl rfl | exact Or.inr rfl) (by decide) (by decide) ?_
      exact ⟨by rw [chB, bI_1 h4, decide_eq_false h15]; rfl, rfl⟩
set_option maxHeartbeats 4000000 in
set_option maxRecDepth 20000 in
theorem ct_X7_homeToCome (hw : WF E ad el g w0 ws) {p : Int32} (hp : vp_in p 10) : Ct E yX7_homeToCome cX7_homeToCome 2 (some (.int)) 2 0 0 [.ref (ad 0), .int p] ws (fun r w => r = some (.int (if chB g p = true then at10 (g 3) p else g 1 p.toNatClampNeg)) ∧ w = ws) := by
  refine Ct_of mw_X7_homeToCome rfl (Nat.le_of_ble_eq_true rfl) ?_
  refine V_aload_n dX7_homeToCome_0 rfl ?_
  refine V_iload_n dX7_homeToCome_1 rfl ?_
  refine V_rdV (0) mw_X7_isChosen mv_X7_134 dX7_homeToCome_2 (ct_X7_isChosen hw p) hw.p0 rfl rfl rfl (Nat.le_of_ble_eq_true rfl) (by decide) (by decide) (by decide) (by decide) ?_
  refine V_if_eq 19 dX7_homeToCome_5 (by decide) (fun h5 => ?_) (fun h5 => ?_)
  · skip
    refine V_aload_n dX7_homeToCome_19 rfl ?_
    refine V_get (0) fl_X7_9 dX7_homeToCome_20 hw.p0 rfl ?_
    refine V_iload_n dX7_homeToCome_23 rfl ?_
    refine V_iald (1) dX7_homeToCome_24 hw.p1 hp ?_
    refine V_iret dX7_homeToCome_25 rfl (by decide) (by decide) ?_
    exact ⟨by rw [bI_0 h5]; rfl, rfl⟩
  · skip
    refine V_aload_n dX7_homeToCome_8 rfl ?_
    refine V_get (0) fl_X7_16 dX7_homeToCome_9 hw.p0 rfl ?_
    refine V_iload_n dX7_homeToCome_12 rfl ?_
    refine V_rdV (2) mw_X2_versionOf mv_X7_141 dX7_homeToCome_13 (ct_X2_versionOf hw (Or.inl rfl) p) hw.p2 rfl rfl rfl (Nat.le_of_ble_eq_true rfl) (by decide) (by decide) (by decide) (by decide) ?_
    refine V_goto 25 dX7_homeToCome_16 (by decide) ?_
    refine V_iret dX7_homeToCome_25 rfl (by decide) (by decide) ?_
    exact ⟨by rw [bI_1 h5]; rfl, rfl⟩
set_option maxHeartbeats 4000000 in
set_option maxRecDepth 20000 in
theorem ct_X7_openOffers (hw : WF E ad el g w0 ws) : Ct E yX7_openOffers cX7_openOffers 1 (some (.object "TrainDesk$Offers")) 1 0 0 [.ref (ad 0)] ws (fun r w => r = some (.ref (ad (if cutB g = true then 5 else 2))) ∧ w = ws) := by
  refine Ct_of mw_X7_openOffers rfl (Nat.le_of_ble_eq_true rfl) ?_
  refine V_aload_n dX7_openOffers_0 rfl ?_
  refine V_rdV (0) mw_X7_isCutAtHand mv_X7_72 dX7_openOffers_1 (ct_X7_isCutAtHand hw) hw.p0 rfl rfl rfl (Nat.le_of_ble_eq_true rfl) (by decide) (by decide) (by decide) (by decide) ?_
  refine V_if_eq 14 dX7_openOffers_4 (by decide) (fun h4 => ?_) (fun h4 => ?_)
  · skip
    refine V_aload_n dX7_openOffers_14 rfl ?_
    refine V_get (0) fl_X7_16 dX7_openOffers_15 hw.p0 rfl ?_
    refine V_aret dX7_openOffers_18 rfl (Or.inl ⟨_, rfl⟩) (Or.inr ⟨_, rfl⟩) (by decide) (by decide) ?_
    exact ⟨by rw [bI_0 h4]; rfl, rfl⟩
  · skip
    refine V_aload_n dX7_openOffers_7 rfl ?_
    refine V_get (0) fl_X7_20 dX7_openOffers_8 hw.p0 rfl ?_
    refine V_goto 18 dX7_openOffers_11 (by decide) ?_
    refine V_aret dX7_openOffers_18 rfl (Or.inl ⟨_, rfl⟩) (Or.inr ⟨_, rfl⟩) (by decide) (by decide) ?_
    exact ⟨by rw [bI_1 h4]; rfl, rfl⟩
set_option maxHeartbeats 4000000 in
set_option maxRecDepth 20000 in
theorem ct_X7_mayFix (hw : WF E ad el g w0 ws) {nP : Nat} (hP : g 0 9 = nI nP) (hP10 : nP ≤ 10) (p v u : Int32) : Ct E yX7_mayFix cX7_mayFix 4 (some (.boolean)) 2 0 0 [.ref (ad 0), .int p, .int v, .int u] ws (fun r w => r = some (.int (bI (mayB g p v u))) ∧ w = ws) := by
  refine Ct_of mw_X7_mayFix rfl (Nat.le_of_ble_eq_true rfl) ?_
  refine V_aload_n dX7_mayFix_0 rfl ?_
  refine V_rdV (0) mw_X7_isCutAtHand mv_X7_72 dX7_mayFix_1 (ct_X7_isCutAtHand hw) hw.p0 rfl rfl rfl (Nat.le_of_ble_eq_true rfl) (by decide) (by decide) (by decide) (by decide) ?_
  refine V_if_eq 51 dX7_mayFix_4 (by decide) (fun h4 => ?_) (fun h4 => ?_)
  · skip
    refine V_iconst (v := 0) dX7_mayFix_51 (by decide) ?_
    refine V_zret dX7_mayFix_52 rfl (by first | exact Or.inl rfl | exact Or.inr rfl) (by decide) (by decide) ?_
    exact ⟨by simp [mayB, bI, bI_0 h4], rfl⟩
  · skip
    refine V_aload_n dX7_mayFix_7 rfl ?_
    refine V_iload_n dX7_mayFix_8 rfl ?_
    refine V_rdV (0) mw_X7_isPart mv_X7_80 dX7_mayFix_9 (ct_X7_isPart hw p) hw.p0 rfl rfl rfl (Nat.le_of_ble_eq_true rfl) (by decide) (by decide) (by decide) (by decide) ?_
    refine V_if_eq 51 dX7_mayFix_12 (by decide) (fun h12 => ?_) (fun h12 => ?_)
    · skip
      refine V_iconst (v := 0) dX7_mayFix_51 (by decide) ?_
      refine V_zret dX7_mayFix_52 rfl (by first | exact Or.inl rfl | exact Or.inr rfl) (by decide) (by decide) ?_
      exact ⟨by simp [mayB, bI, bI_0 h12, bI_1 h4], rfl⟩
    · skip
      refine V_iload_n dX7_mayFix_15 rfl ?_
      refine V_rdS mw_X7_isVersion ms_X7_76 dX7_mayFix_16 (ct_X7_isVersion v) rfl rfl (Nat.le_of_ble_eq_true rfl) (by decide) (by decide) (by decide) (by decide) ?_
      refine V_if_eq 51 dX7_mayFix_19 (by decide) (fun h19 => ?_) (fun h19 => ?_)
      · skip
        refine V_iconst (v := 0) dX7_mayFix_51 (by decide) ?_
        refine V_zret dX7_mayFix_52 rfl (by first | exact Or.inl rfl | exact Or.inr rfl) (by decide) (by decide) ?_
        exact ⟨by simp [mayB, bI, bI_0 h19, bI_1 h4, bI_1 h12], rfl⟩
      · skip
        refine V_iload_n dX7_mayFix_22 rfl ?_
        refine V_rdS mw_X7_isWorth ms_X7_83 dX7_mayFix_23 (ct_X7_isWorth u) rfl rfl (Nat.le_of_ble_eq_true rfl) (by decide) (by decide) (by decide) (by decide) ?_
        refine V_if_eq 51 dX7_mayFix_26 (by decide) (fun h26 => ?_) (fun h26 => ?_)
        · skip
          refine V_iconst (v := 0) dX7_mayFix_51 (by decide) ?_
          refine V_zret dX7_mayFix_52 rfl (by first | exact Or.inl rfl | exact Or.inr rfl) (by decide) (by decide) ?_
          exact ⟨by simp [mayB, bI, bI_0 h26, bI_1 h4, bI_1 h12, bI_1 h19], rfl⟩
        · skip
          refine V_aload_n dX7_mayFix_29 rfl ?_
          refine V_iload_n dX7_mayFix_30 rfl ?_
          refine V_rdV (0) mw_X7_isChosen mv_X7_134 dX7_mayFix_31 (ct_X7_isChosen hw p) hw.p0 rfl rfl rfl (Nat.le_of_ble_eq_true rfl) (by decide) (by decide) (by decide) (by decide) ?_
          refine V_if_ne 51 dX7_mayFix_34 (by decide) (fun h34 => ?_) (fun h34 => ?_)
          · skip
            refine V_iconst (v := 0) dX7_mayFix_51 (by decide) ?_
            refine V_zret dX7_mayFix_52 rfl (by first | exact Or.inl rfl | exact Or.inr rfl) (by decide) (by decide) ?_
            exact ⟨by simp [mayB, bI, bI_1 h34, bI_1 h4, bI_1 h12, bI_1 h19, bI_1 h26], rfl⟩
          · skip
            refine V_iload_n dX7_mayFix_37 rfl ?_
            refine V_aload_n dX7_mayFix_38 rfl ?_
            refine V_get (0) fl_X7_9 dX7_mayFix_39 hw.p0 rfl ?_
            refine V_iload_n dX7_mayFix_42 rfl ?_
            refine V_iald (1) dX7_mayFix_43 hw.p1 (by obtain ⟨j, hj, rfl⟩ := isPt_in hP hP10 (bI_1 h12); exact vp_in_nI (by omega) (by decide)) ?_
            refine V_icmp_eq 51 dX7_mayFix_44 (by decide) (fun h44 => ?_) (fun h44 => ?_)
            · skip
              refine V_iconst (v := 0) dX7_mayFix_51 (by decide) ?_
              refine V_zret dX7_mayFix_52 rfl (by first | exact Or.inl rfl | exact Or.inr rfl) (by decide) (by decide) ?_
              exact ⟨by simp [mayB, bI, bI_0 h34, h44, bI_1 h4, bI_1 h12, bI_1 h19, bI_1 h26], rfl⟩
            · skip
              refine V_iconst (v := 1) dX7_mayFix_47 (by decide) ?_
              refine V_goto 52 dX7_mayFix_48 (by decide) ?_
              refine V_zret dX7_mayFix_52 rfl (by first | exact Or.inl rfl | exact Or.inr rfl) (by decide) (by decide) ?_
              exact ⟨by simp [mayB, bI, bI_0 h34, h44, bI_1 h4, bI_1 h12, bI_1 h19, bI_1 h26], rfl⟩
set_option maxHeartbeats 4000000 in
set_option maxRecDepth 20000 in
theorem ct_X7_firstBroken (hw : Wd E ad el g ws) {nN : Nat} (hN : g 8 7 = nI nN) (hN30 : nN ≤ 30) (hok : NOK g nN) (set : Int32) : Ct E yX7_firstBroken cX7_firstBroken 2 (some (.int)) 4 0 0 [.ref (ad 0), .int set] ws (fun r w => r = some (.int (brkD (wTo g nN) nN set)) ∧ WF E ad el (wTo g nN) ws w) := by
  refine Ct_of mw_X7_firstBroken rfl (Nat.le_of_ble_eq_true rfl) ?_
  have hw := WF.rf hw
  refine V_aload_n dX7_firstBroken_0 rfl ?_
  refine V_get (0) fl_X7_26 dX7_firstBroken_1 hw.p0 rfl ?_
  refine V_aload_n dX7_firstBroken_4 rfl ?_
  refine V_get (0) fl_X7_9 dX7_firstBroken_5 hw.p0 rfl ?_
  refine V_aload_n dX7_firstBroken_8 rfl ?_
  refine V_get (0) fl_X7_16 dX7_firstBroken_9 hw.p0 rfl ?_
  refine V_callV (8) mw_X1_weigh mv_X7_147 dX7_firstBroken_12 (ct_X1_weigh hw.1 hN hN30 hok) hw.p8 rfl rfl rfl (Nat.le_of_ble_eq_true rfl) (by decide) (by decide) (by decide) (by decide) (fun r12 ws1 hp12 => ?_)
  obtain ⟨rfl, hw1⟩ := hp12
  refine V_aload_n dX7_firstBroken_15 rfl ?_
  refine V_get (0) fl_X7_26 dX7_firstBroken_16 hw1.p0 rfl ?_
  refine V_iload_n dX7_firstBroken_19 rfl ?_
  refine V_rdV (8) mw_X1_firstBroken mv_X7_250 dX7_firstBroken_20 (ct_X1_firstBroken hw1 set hN hN30) hw1.p8 rfl rfl rfl (Nat.le_of_ble_eq_true rfl) (by decide) (by decide) (by decide) (by decide) ?_
  refine V_iret dX7_firstBroken_23 rfl (by decide) (by decide) ?_
  exact ⟨rfl, hw1⟩
set_option maxHeartbeats 4000000 in
set_option maxRecDepth 20000 in
theorem ct_X7_goes (hw : WF E ad el g w0 ws) {nN : Nat} (hN : g 8 7 = nI nN) (hN30 : nN ≤ 30) {nT : Nat} (hT : g 16 1 = nI nT) (hT12 : nT ≤ 12) (set : Int32) : Ct E yX7_goes cX7_goes 2 (some (.boolean)) 1 0 0 [.ref (ad 0), .int set] ws (fun r w => r = some (.int (bI (goesB g nN nT set))) ∧ w = ws) := by
  refine Ct_of mw_X7_goes rfl (Nat.le_of_ble_eq_true rfl) ?_
  refine V_aload_n dX7_goes_0 rfl ?_
  refine V_get (0) fl_X7_26 dX7_goes_1 hw.p0 rfl ?_
  refine V_iload_n dX7_goes_4 rfl ?_
  refine V_rdV (8) mw_X1_firstBroken mv_X7_250 dX7_goes_5 (ct_X1_firstBroken hw set hN hN30) hw.p8 rfl rfl rfl (Nat.le_of_ble_eq_true rfl) (by decide) (by decide) (by decide) (by decide) ?_
  refine V_iconst (v := -1) dX7_goes_8 (by decide) ?_
  refine V_icmp_ne 28 dX7_goes_9 (by decide) (fun h9 => ?_) (fun h9 => ?_)
  · skip
    refine V_iconst (v := 0) dX7_goes_28 (by decide) ?_
    refine V_zret dX7_goes_29 rfl (by first | exact Or.inl rfl | exact Or.inr rfl) (by decide) (by decide) ?_
    exact ⟨by rw [goesB, decide_eq_false h9]; rfl, rfl⟩
  · skip
    refine V_aload_n dX7_goes_12 rfl ?_
    refine V_get (0) fl_X7_33 dX7_goes_13 hw.p0 rfl ?_
    refine V_iload_n dX7_goes_16 rfl ?_
    refine V_rdV (16) mw_X5_firstRed mv_X7_121 dX7_goes_17 (ct_X5_firstRed hw set hT hT12) hw.p16 rfl rfl rfl (Nat.le_of_ble_eq_true rfl) (by decide) (by decide) (by decide) (by decide) ?_
    refine V_iconst (v := -1) dX7_goes_20 (by decide) ?_
    refine V_icmp_ne 28 dX7_goes_21 (by decide) (fun h21 => ?_) (fun h21 => ?_)
    · skip
      refine V_iconst (v := 0) dX7_goes_28 (by decide) ?_
      refine V_zret dX7_goes_29 rfl (by first | exact Or.inl rfl | exact Or.inr rfl) (by decide) (by decide) ?_
      exact ⟨by rw [goesB, decide_eq_true h9, decide_eq_false h21]; rfl, rfl⟩
    · skip
      refine V_iconst (v := 1) dX7_goes_24 (by decide) ?_
      refine V_goto 29 dX7_goes_25 (by decide) ?_
      refine V_zret dX7_goes_29 rfl (by first | exact Or.inl rfl | exact Or.inr rfl) (by decide) (by decide) ?_
      exact ⟨by rw [goesB, decide_eq_true h9, decide_eq_true h21]; rfl, rfl⟩
set_option maxHeartbeats 4000000 in
set_option maxRecDepth 20000 in
theorem ct_X7_hasLowerPart (a b : Int32) : Ct E yX7_hasLowerPart cX7_hasLowerPart 2 (some (.boolean)) 1 0 0 [.int a, .int b] ws (fun r w => r = some (.int (bI (lowerB a b))) ∧ w = ws) := by
  refine Ct_of mw_X7_hasLowerPart rfl (Nat.le_of_ble_eq_true rfl) ?_
  refine V_iload_n dX7_hasLowerPart_0 rfl ?_
  refine V_iload_n dX7_hasLowerPart_1 rfl ?_
  refine V_iload_n dX7_hasLowerPart_2 rfl ?_
  refine V_ixor dX7_hasLowerPart_3 ?_
  refine V_rdS mw_J6_lowestOneBit_0f7a4 ms_X7_254 dX7_hasLowerPart_4 (ct_lowestOneBit _) rfl rfl (Nat.le_of_ble_eq_true rfl) (by decide) (by decide) (by decide) (by decide) ?_
  refine V_iand dX7_hasLowerPart_7 ?_
  refine V_if_eq 15 dX7_hasLowerPart_8 (by decide) (fun h8 => ?_) (fun h8 => ?_)
  · skip
    refine V_iconst (v := 0) dX7_hasLowerPart_15 (by decide) ?_
    refine V_zret dX7_hasLowerPart_16 rfl (by first | exact Or.inl rfl | exact Or.inr rfl) (by decide) (by decide) ?_
    exact ⟨by rw [lowerB, decide_eq_true h8]; rfl, rfl⟩
  · skip
    refine V_iconst (v := 1) dX7_hasLowerPart_11 (by decide) ?_
    refine V_goto 16 dX7_hasLowerPart_12 (by decide) ?_
    refine V_zret dX7_hasLowerPart_16 rfl (by first | exact Or.inl rfl | exact Or.inr rfl) (by decide) (by decide) ?_
    exact ⟨by rw [lowerB, decide_eq_false h8]; rfl, rfl⟩
set_option maxHeartbeats 4000000 in
set_option maxRecDepth 20000 in
theorem ct_X7_choose (hw : Wd E ad el g ws) {nN : Nat} (hN : g 8 7 = nI nN) (hN30 : nN ≤ 30) (hok : NOK g nN) {S : Nat} (hS : S < 1024) : Ct E yX7_choose cX7_choose 2 none 4 0 0 [.ref (ad 0), .int (nI S)] ws (fun r w => r = none ∧ WF E ad el (chooseG g nN S) ws w) := by
  refine Ct_of mw_X7_choose rfl (Nat.le_of_ble_eq_true rfl) ?_
  have hw := WF.rf hw
  refine V_aload_n dX7_choose_0 rfl ?_
  refine V_iload_n dX7_choose_1 rfl ?_
  refine W_put (0) hw (by decide) fp_X7_69 dX7_choose_2 rfl rfl rfl rfl (Nat.le_of_ble_eq_true rfl) (fun ws1 hw1 => ?_)
  refine V_aload_n dX7_choose_5 rfl ?_
  refine V_get (0) fl_X7_26 dX7_choose_6 hw1.p0 rfl ?_
  refine V_aload_n dX7_choose_9 rfl ?_
  refine V_get (0) fl_X7_9 dX7_choose_10 hw1.p0 rfl ?_
  refine V_aload_n dX7_choose_13 rfl ?_
  refine V_get (0) fl_X7_16 dX7_choose_14 hw1.p0 rfl ?_
  refine V_callV (8) mw_X1_weigh mv_X7_147 dX7_choose_17 (ct_X1_weigh (g := va_up g 0 (upd (g 0) 10 (nI S))) hw1.1 hN hN30 hok) hw1.p8 rfl rfl rfl (Nat.le_of_ble_eq_true rfl) (by decide) (by decide) (by decide) (by decide) (fun r17 ws2 hp17 => ?_)
  obtain ⟨rfl, hw2⟩ := hp17
  have hw2 := hw1.trans hw2
  refine V_aload_n dX7_choose_20 rfl ?_
  refine V_get (0) fl_X7_40 dX7_choose_21 hw2.p0 rfl ?_
  refine V_aload_n dX7_choose_24 rfl ?_
  refine V_get (0) fl_X7_26 dX7_choose_25 hw2.p0 rfl ?_
  refine V_iload_n dX7_choose_28 rfl ?_
  refine V_callV (18) mw_X4_plan mv_X7_257 dX7_choose_29 (ct_X4_plan hw2.1 hN hN30 hS) hw2.p18 rfl rfl rfl (Nat.le_of_ble_eq_true rfl) (by decide) (by decide) (by decide) (by decide) (fun r29 ws3 hp29 => ?_)
  obtain ⟨rfl, hw3⟩ := hp29
  have hw3 := hw2.trans hw3
  refine V_vret dX7_choose_32 rfl (by decide) (by decide) ?_
  exact ⟨rfl, hw3⟩
def pStk (g : Nat → Nat → Int32) (nW S : Nat) (p : Nat) : Bool := S.testBit p && !decide (fi (pWay (g 22) (g 23) (nI p) (g 1 p)) nW 0 = -1)
set_option maxHeartbeats 4000000 in
set_option maxRecDepth 20000 in
theorem lp_X7_isStuck (hw : WF E ad el g w0 ws) {nP : Nat} (hP : g 0 9 = nI nP) (hP10 : nP ≤ 10) {nW : Nat} (hW : g 21 2 = nI nW) (hW60 : nW ≤ 60) {S : Nat} (hS : S < 1024) : ∀ (k i : Nat) (x : Int32), i ≤ nP → nP < i + k → x = nI i → fi (pStk g nW S) nP 0 = fi (pStk g nW S) (nP - i) i → V E yX7_isStuck cX7_isStuck 3 (some (.boolean)) 1 0 0 (fun r w => r = some (.int (bI (!decide (fi (pStk g nW S) nP 0 = -1)))) ∧ w = ws) 2 [some (.ref (ad 0)), some (.int (nI S)), some (.int x)] [] ws 0 0 := by
  intro k
  induction k with
  | zero => intro i x h1 h2; exact absurd h2 (by omega)
  | succ k ih =>
    intro i x hil hin hx hinv
    subst hx
    refine V_iload_n dX7_isStuck_2 rfl ?_
    refine V_aload_n dX7_isStuck_3 rfl ?_
    refine V_get (0) fl_X7_65 dX7_isStuck_4 hw.p0 rfl ?_
    refine V_icmp_ge 44 dX7_isStuck_7 (by decide) (fun h7 => ?_) (fun h7 => ?_)
    · skip
      refine V_iconst (v := 0) dX7_isStuck_44 (by decide) ?_
      refine V_zret dX7_isStuck_45 rfl (by first | exact Or.inl rfl | exact Or.inr rfl) (by decide) (by decide) ?_
      have hi := leK (a := nP) (b := i) (by omega) (by omega) (by rw [← hP]; exact h7)
      exact ⟨by rw [hinv, fi_end hi]; rfl, rfl⟩
    · skip
      have hi := nleK (a := nP) (b := i) (by omega) (by omega) (by rw [← hP]; exact h7)
      refine V_iload_n dX7_isStuck_10 rfl ?_
      refine V_iload_n dX7_isStuck_11 rfl ?_
      refine V_ishr dX7_isStuck_12 ?_
      refine V_iconst (v := 1) dX7_isStuck_13 (by decide) ?_
      refine V_iand dX7_isStuck_14 ?_
      refine V_if_eq 38 dX7_isStuck_15 (by decide) (fun h15 => ?_) (fun h15 => ?_)
      · skip
        refine V_iinc dX7_isStuck_38 rfl rfl (by decide) ?_
        refine V_goto 2 dX7_isStuck_41 (by decide) ?_
        have hb := bitAt_eq (by omega) (by omega) h15
        exact ih (i + 1) _ (by omega) (by omega) (nI_1 i) (by rw [hinv, fi_step hi, if_neg (by simp [pStk, hb])])
      · skip
        refine V_aload_n dX7_isStuck_18 rfl ?_
        refine V_get (0) fl_X7_54 dX7_isStuck_19 hw.p0 rfl ?_
        refine V_iload_n dX7_isStuck_22 rfl ?_
        refine V_aload_n dX7_isStuck_23 rfl ?_
        refine V_get (0) fl_X7_9 dX7_isStuck_24 hw.p0 rfl ?_
        refine V_iload_n dX7_isStuck_27 rfl ?_
        refine V_ialdN (1) dX7_isStuck_28 hw.p1 (by omega) (by first | decide | omega) ?_
        refine V_rdV (21) mw_X3_find mv_X7_261 dX7_isStuck_29 (ct_X3_find hw (nI i) (g 1 i) hW hW60) hw.p21 rfl rfl rfl (Nat.le_of_ble_eq_true rfl) (by decide) (by decide) (by decide) (by decide) ?_
        refine V_iconst (v := -1) dX7_isStuck_32 (by decide) ?_
        refine V_icmp_eq 38 dX7_isStuck_33 (by decide) (fun h33 => ?_) (fun h33 => ?_)
        · skip
          refine V_iinc dX7_isStuck_38 rfl rfl (by decide) ?_
          refine V_goto 2 dX7_isStuck_41 (by decide) ?_
          exact ih (i + 1) _ (by omega) (by omega) (nI_1 i) (by rw [hinv, fi_step hi, if_neg (by simp [pStk, h33])])
        · skip
          refine V_iconst (v := 1) dX7_isStuck_36 (by decide) ?_
          refine V_zret dX7_isStuck_37 rfl (by first | exact Or.inl rfl | exact Or.inr rfl) (by decide) (by decide) ?_
          have hb := bitAt_ne (by omega) (by omega) h15
          have e : fi (pStk g nW S) nP 0 = nI i := by rw [hinv, fi_step hi, if_pos (by simp [pStk, hb, h33])]
          exact ⟨by rw [e, decide_eq_false (nI_ne_m1 (by omega))]; rfl, rfl⟩
set_option maxHeartbeats 4000000 in
set_option maxRecDepth 20000 in
theorem ct_X7_isStuck (hw : WF E ad el g w0 ws) {nP : Nat} (hP : g 0 9 = nI nP) (hP10 : nP ≤ 10) {nW : Nat} (hW : g 21 2 = nI nW) (hW60 : nW ≤ 60) {S : Nat} (hS : S < 1024) : Ct E yX7_isStuck cX7_isStuck 3 (some (.boolean)) 1 0 0 [.ref (ad 0), .int (nI S)] ws (fun r w => r = some (.int (bI (!decide (fi (pStk g nW S) nP 0 = -1)))) ∧ w = ws) := by
  refine Ct_of mw_X7_isStuck rfl (Nat.le_of_ble_eq_true rfl) ?_
  refine V_iconst (v := 0) dX7_isStuck_0 (by decide) ?_
  refine V_istore_n dX7_isStuck_1 (by decide) ?_
  exact lp_X7_isStuck hw hP hP10 hW hW60 hS (nP + 1) 0 _ (Nat.zero_le _) (by omega) rfl rfl
/-- home with the versions f of the parts of S below n -/
def brF (h f : Nat → Int32) (S n : Nat) : Nat → Int32 := fun p => if (decide (p < n) && S.testBit p) = true then f p else h p
theorem brF_0 (h f : Nat → Int32) (S : Nat) : brF h f S 0 = h := by funext p; simp [brF]
theorem brF_s1 {h f : Nat → Int32} {S n : Nat} (hb : S.testBit n = true) : upd (brF h f S n) n (f n) = brF h f S (n + 1) := by
  funext p
  unfold upd brF
  by_cases e : p = n
  · subst e; simp [hb]
  · rw [if_neg e]
    by_cases q : p < n
    · simp [q, Nat.lt_succ_of_lt q]
    · simp [q, show ¬ p < n + 1 by omega]
theorem brF_s0 {h f : Nat → Int32} {S n : Nat} (hb : S.testBit n = false) : brF h f S n = brF h f S (n + 1) := by
  funext p
  unfold brF
  by_cases e : p = n
  · subst e; simp [hb]
  · by_cases q : p < n
    · simp [q, Nat.lt_succ_of_lt q]
    · simp [q, show ¬ p < n + 1 by omega]
set_option maxHeartbeats 4000000 in
set_option maxRecDepth 20000 in
theorem lp_X7_bringHome {q a n : Nat} {f : Nat → Int32} (hq : 46 ≤ q) (hn : n ≤ 10) {S : Nat} (hS : S < 1024) (hf : w0[q]? = some (a, .inl (cI E, n, .inl f))) : ∀ (k i : Nat) (x : Int32) (ws : va_W), i ≤ n → n < i + k → x = nI i → WF E ad el (va_up g 1 (brF (g 1) f S i)) w0 ws → V E yX7_bringHome cX7_bringHome 4 none 0 0 0 (fun r w => r = none ∧ WF E ad el (va_up g 1 (brF (g 1) f S n)) w0 w) 2 [some (.ref (ad 0)), some (.ref a), some (.int (nI S)), some (.int x)] [] ws 0 0 := by
  intro k
  induction k with
  | zero => intro i x ws h1 h2; exact absurd h2 (by omega)
  | succ k ih =>
    intro i x ws hil hin hx hw
    subst hx
    refine V_iload_n dX7_bringHome_2 rfl ?_
    refine V_aload_n dX7_bringHome_3 rfl ?_
    refine V_alenI (q) dX7_bringHome_4 (by rw [hw.2.2 q hq]; exact hf) rfl ?_
    refine V_icmp_ge 37 dX7_bringHome_5 (by decide) (fun h5 => ?_) (fun h5 => ?_)
    · skip
      refine V_vret dX7_bringHome_37 rfl (by decide) (by decide) ?_
      have hi : i = n := by have := leK (a := n) (b := i) (by omega) (by omega) h5; omega
      subst hi
      exact ⟨rfl, hw⟩
    · skip
      have hi := nleK (a := n) (b := i) (by omega) (by omega) h5
      refine V_iload_n dX7_bringHome_8 rfl ?_
      refine V_bipush (v := 10) dX7_bringHome_9 (by decide) ?_
      refine V_icmp_ge 37 dX7_bringHome_11 (by decide) (fun h11 => absurd (leK (a := 10) (b := i) (by decide) (by omega) h11) (by omega)) (fun h11 => ?_)
      refine V_iload_n dX7_bringHome_14 rfl ?_
      refine V_iload_n dX7_bringHome_15 rfl ?_
      refine V_ishr dX7_bringHome_16 ?_
      refine V_iconst (v := 1) dX7_bringHome_17 (by decide) ?_
      refine V_iand dX7_bringHome_18 ?_
      refine V_if_eq 31 dX7_bringHome_19 (by decide) (fun h19 => ?_) (fun h19 => ?_)
      · skip
        refine V_iinc dX7_bringHome_31 rfl rfl (by decide) ?_
        refine V_goto 2 dX7_bringHome_34 (by decide) ?_
        have hb := bitAt_eq (by omega) (by omega) h19
        rw [brF_s0 hb] at hw
        exact ih (i + 1) _ _ (by omega) (by omega) (nI_1 i) hw
      · skip
        refine V_aload_n dX7_bringHome_22 rfl ?_
        refine V_get (0) fl_X7_9 dX7_bringHome_23 hw.p0 rfl ?_
        refine V_iload_n dX7_bringHome_26 rfl ?_
        refine V_aload_n dX7_bringHome_27 rfl ?_
        refine V_iload_n dX7_bringHome_28 rfl ?_
        refine V_ialdN (q) dX7_bringHome_29 (by rw [hw.2.2 q hq]; exact hf) hi (by first | decide | omega) ?_
        refine W_iastN (1) hw (by decide) (fun _ => rfl) dX7_bringHome_30 (by omega) (by first | decide | omega) (fun ws1 hw1 => ?_)
        refine V_iinc dX7_bringHome_31 rfl rfl (by decide) ?_
        refine V_goto 2 dX7_bringHome_34 (by decide) ?_
        have hb := bitAt_ne (by omega) (by omega) h19
        rw [va_up_up, show va_up g 1 (brF (g 1) f S i) 1 = brF (g 1) f S i from rfl, brF_s1 hb] at hw1
        exact ih (i + 1) _ _ (by omega) (by omega) (nI_1 i) hw1
set_option maxHeartbeats 4000000 in
set_option maxRecDepth 20000 in
theorem ct_X7_bringHome (hw : Wd E ad el g ws) {q a n : Nat} {f : Nat → Int32} (hq : 46 ≤ q) (hn : n ≤ 10) {S : Nat} (hS : S < 1024) (hf : ws[q]? = some (a, .inl (cI E, n, .inl f))) : Ct E yX7_bringHome cX7_bringHome 4 none 0 0 0 [.ref (ad 0), .ref a, .int (nI S)] ws (fun r w => r = none ∧ WF E ad el (va_up g 1 (brF (g 1) f S n)) ws w) := by
  refine Ct_of mw_X7_bringHome rfl (Nat.le_of_ble_eq_true rfl) ?_
  refine V_iconst (v := 0) dX7_bringHome_0 (by decide) ?_
  refine V_istore_n dX7_bringHome_1 (by decide) ?_
  exact lp_X7_bringHome hq hn hS hf (n + 1) 0 _ _ (Nat.zero_le _) (by omega) rfl (by rw [brF_0, va_up_id]; exact WF.rf hw)
def drpG (g : Nat → Nat → Int32) : Nat → Nat → Nat → Int32
  | 0 => g
  | p + 1 => if at10 (drpG g p 3) (nI p) = drpG g p 1 p then put10 (drpG g p) 2 (nI p) (-1) (-1) else drpG g p
def endStep (g : Nat → Nat → Int32) (p : Nat) : Nat → Nat → Int32 := put10 (if at10 (g 6) (nI p) = -1 then g else if at10 (g 6) (nI p) = g 1 p then g else put10 g 2 (nI p) (at10 (g 6) (nI p)) (at10 (g 7) (nI p))) 5 (nI p) (-1) (-1)
def endG (g : Nat → Nat → Int32) : Nat → Nat → Nat → Int32
  | 0 => va_up g 0 (upd (g 0) 10 (-1))
  | p + 1 => endStep (endG g p) p
theorem put10_low (g : Nat → Nat → Int32) (b : Nat) (p v u : Int32) (k : Nat) (h1 : k ≠ b + 1) (h2 : k ≠ b + 2) : put10 g b p v u k = g k := by
  unfold put10
  split
  · rfl
  · split
    · rfl
    · rw [va_up_ne _ _ h2, va_up_ne _ _ h1]
theorem drpG_k (g : Nat → Nat → Int32) (k : Nat) (h1 : k ≠ 3) (h2 : k ≠ 4) : ∀ p, drpG g p k = g k
  | 0 => rfl
  | p + 1 => by
    unfold drpG
    split
    · rw [put10_low _ _ _ _ _ _ h1 h2]; exact drpG_k g k h1 h2 p
    · exact drpG_k g k h1 h2 p
theorem endStep_k (g : Nat → Nat → Int32) (p k : Nat) (h3 : k ≠ 3) (h4 : k ≠ 4) (h6 : k ≠ 6) (h7 : k ≠ 7) : endStep g p k = g k := by
  unfold endStep
  rw [put10_low _ _ _ _ _ _ h6 h7]
  split
  · rfl
  · split
    · rfl
    · rw [put10_low _ _ _ _ _ _ h3 h4]
theorem endG_k (g : Nat → Nat → Int32) (k : Nat) (h0 : k ≠ 0) (h3 : k ≠ 3) (h4 : k ≠ 4) (h6 : k ≠ 6) (h7 : k ≠ 7) : ∀ p, endG g p k = g k
  | 0 => va_up_ne _ _ h0
  | p + 1 => by
    unfold endG
    rw [endStep_k _ _ _ h3 h4 h6 h7]
    exact endG_k g k h0 h3 h4 h6 h7 p
theorem endG_09 (g : Nat → Nat → Int32) : ∀ p, endG g p 0 = upd (g 0) 10 (-1)
  | 0 => va_up_self _ _ _
  | p + 1 => by
    unfold endG
    rw [endStep_k _ _ _ (by decide) (by decide) (by decide) (by decide)]
    exact endG_09 g p
set_option maxHeartbeats 4000000 in
set_option maxRecDepth 20000 in
theorem lp_X7_dropOffersAtHome {nP : Nat} (hP : g 0 9 = nI nP) (hP10 : nP ≤ 10) : ∀ (k i : Nat) (x : Int32) (ws : va_W), i ≤ nP → nP < i + k → x = nI i → WF E ad el (drpG g i) w0 ws → V E yX7_dropOffersAtHome cX7_dropOffersAtHome 2 none 2 0 0 (fun r w => r = none ∧ WF E ad el (drpG g nP) w0 w) 2 [some (.ref (ad 0)), some (.int x)] [] ws 0 0 := by
  intro k
  induction k with
  | zero => intro i x ws h1 h2; exact absurd h2 (by omega)
  | succ k ih =>
    intro i x ws hil hin hx hw
    subst hx
    refine V_iload_n dX7_dropOffersAtHome_2 rfl ?_
    refine V_aload_n dX7_dropOffersAtHome_3 rfl ?_
    refine V_get (0) fl_X7_65 dX7_dropOffersAtHome_4 hw.p0 rfl ?_
    refine V_icmp_ge 41 dX7_dropOffersAtHome_7 (by decide) (fun h7 => ?_) (fun h7 => ?_)
    · skip
      refine V_vret dX7_dropOffersAtHome_41 rfl (by decide) (by decide) ?_
      rw [show drpG g i 0 9 = nI nP from by rw [drpG_k g 0 (by decide) (by decide)]; exact hP] at h7
      have hi : i = nP := by have := leK (a := nP) (b := i) (by omega) (by omega) h7; omega
      subst hi
      exact ⟨rfl, hw⟩
    · skip
      rw [show drpG g i 0 9 = nI nP from by rw [drpG_k g 0 (by decide) (by decide)]; exact hP] at h7
      have hi := nleK (a := nP) (b := i) (by omega) (by omega) h7
      refine V_aload_n dX7_dropOffersAtHome_10 rfl ?_
      refine V_get (0) fl_X7_16 dX7_dropOffersAtHome_11 hw.p0 rfl ?_
      refine V_iload_n dX7_dropOffersAtHome_14 rfl ?_
      refine V_rdV (2) mw_X2_versionOf mv_X7_141 dX7_dropOffersAtHome_15 (ct_X2_versionOf hw (Or.inl rfl) (nI i)) hw.p2 rfl rfl rfl (Nat.le_of_ble_eq_true rfl) (by decide) (by decide) (by decide) (by decide) ?_
      refine V_aload_n dX7_dropOffersAtHome_18 rfl ?_
      refine V_get (0) fl_X7_9 dX7_dropOffersAtHome_19 hw.p0 rfl ?_
      refine V_iload_n dX7_dropOffersAtHome_22 rfl ?_
      refine V_ialdN (1) dX7_dropOffersAtHome_23 hw.p1 (by omega) (by first | decide | omega) ?_
      refine V_icmp_ne 35 dX7_dropOffersAtHome_24 (by decide) (fun h24 => ?_) (fun h24 => ?_)
      · skip
        refine V_iinc dX7_dropOffersAtHome_35 rfl rfl (by decide) ?_
        refine V_goto 2 dX7_dropOffersAtHome_38 (by decide) ?_
        exact ih (i + 1) _ _ (by omega) (by omega) (nI_1 i) (by rw [drpG, if_neg h24]; exact hw)
      · skip
        refine V_aload_n dX7_dropOffersAtHome_27 rfl ?_
        refine V_get (0) fl_X7_16 dX7_dropOffersAtHome_28 hw.p0 rfl ?_
        refine V_iload_n dX7_dropOffersAtHome_31 rfl ?_
        refine V_callV (2) mw_X2_drop mv_X7_101 dX7_dropOffersAtHome_32 (ct_X2_drop hw.1 (Or.inl rfl) (nI i)) hw.p2 rfl rfl rfl (Nat.le_of_ble_eq_true rfl) (by decide) (by decide) (by decide) (by decide) (fun r32 ws1 hp32 => ?_)
        obtain ⟨rfl, hw1⟩ := hp32
        have hw1 := hw.trans hw1
        refine V_iinc dX7_dropOffersAtHome_35 rfl rfl (by decide) ?_
        refine V_goto 2 dX7_dropOffersAtHome_38 (by decide) ?_
        exact ih (i + 1) _ _ (by omega) (by omega) (nI_1 i) (by rw [drpG, if_pos h24]; exact hw1)
set_option maxHeartbeats 4000000 in
set_option maxRecDepth 20000 in
theorem ct_X7_dropOffersAtHome (hw : Wd E ad el g ws) {nP : Nat} (hP : g 0 9 = nI nP) (hP10 : nP ≤ 10) : Ct E yX7_dropOffersAtHome cX7_dropOffersAtHome 2 none 2 0 0 [.ref (ad 0)] ws (fun r w => r = none ∧ WF E ad el (drpG g nP) ws w) := by
  refine Ct_of mw_X7_dropOffersAtHome rfl (Nat.le_of_ble_eq_true rfl) ?_
  refine V_iconst (v := 0) dX7_dropOffersAtHome_0 (by decide) ?_
  refine V_istore_n dX7_dropOffersAtHome_1 (by decide) ?_
  exact lp_X7_dropOffersAtHome hP hP10 (nP + 1) 0 _ _ (Nat.zero_le _) (by omega) rfl (WF.rf hw)
set_option maxHeartbeats 4000000 in
set_option maxRecDepth 20000 in
theorem lp_X7_endCut {nP : Nat} (hP : g 0 9 = nI nP) (hP10 : nP ≤ 10) : ∀ (k i : Nat) (x : Int32) (ws : va_W), i ≤ nP → nP < i + k → x = nI i → WF E ad el (endG g i) w0 ws → V E yX7_endCut cX7_endCut 2 none 2 0 0 (fun r w => r = none ∧ WF E ad el (endG g nP) w0 w) 7 [some (.ref (ad 0)), some (.int x)] [] ws 0 0 := by
  intro k
  induction k with
  | zero => intro i x ws h1 h2; exact absurd h2 (by omega)
  | succ k ih =>
    intro i x ws hil hin hx hw
    subst hx
    refine V_iload_n dX7_endCut_7 rfl ?_
    refine V_aload_n dX7_endCut_8 rfl ?_
    refine V_get (0) fl_X7_65 dX7_endCut_9 hw.p0 rfl ?_
    refine V_icmp_ge 81 dX7_endCut_12 (by decide) (fun h12 => ?_) (fun h12 => ?_)
    · skip
      refine V_vret dX7_endCut_81 rfl (by decide) (by decide) ?_
      rw [show endG g i 0 9 = nI nP from by rw [endG_09]; exact hP] at h12
      have hi : i = nP := by have := leK (a := nP) (b := i) (by omega) (by omega) h12; omega
      subst hi
      exact ⟨rfl, hw⟩
    · skip
      rw [show endG g i 0 9 = nI nP from by rw [endG_09]; exact hP] at h12
      have hi := nleK (a := nP) (b := i) (by omega) (by omega) h12
      refine V_aload_n dX7_endCut_15 rfl ?_
      refine V_get (0) fl_X7_20 dX7_endCut_16 hw.p0 rfl ?_
      refine V_iload_n dX7_endCut_19 rfl ?_
      refine V_rdV (5) mw_X2_has mv_X7_98 dX7_endCut_20 (ct_X2_has hw (Or.inr rfl) (nI i)) hw.p5 rfl rfl rfl (Nat.le_of_ble_eq_true rfl) (by decide) (by decide) (by decide) (by decide) ?_
      refine V_if_eq 67 dX7_endCut_23 (by decide) (fun h23 => ?_) (fun h23 => ?_)
      · skip
        refine V_aload_n dX7_endCut_67 rfl ?_
        refine V_get (0) fl_X7_20 dX7_endCut_68 hw.p0 rfl ?_
        refine V_iload_n dX7_endCut_71 rfl ?_
        refine V_callV (5) mw_X2_drop mv_X7_101 dX7_endCut_72 (ct_X2_drop hw.1 (Or.inr rfl) (nI i)) hw.p5 rfl rfl rfl (Nat.le_of_ble_eq_true rfl) (by decide) (by decide) (by decide) (by decide) (fun r72 ws1 hp72 => ?_)
        obtain ⟨rfl, hw1⟩ := hp72
        have hw1 := hw.trans hw1
        refine V_iinc dX7_endCut_75 rfl rfl (by decide) ?_
        refine V_goto 7 dX7_endCut_78 (by decide) ?_
        have c : at10 (endG g i 6) (nI i) = -1 := by
          by_cases c : at10 (endG g i (5 + 1)) (nI i) = -1
          · exact c
          · rw [if_neg c] at h23
            exact absurd h23 (by decide)
        exact ih (i + 1) _ _ (by omega) (by omega) (nI_1 i) (by rw [endG, endStep, if_pos c]; exact hw1)
      · skip
        refine V_aload_n dX7_endCut_26 rfl ?_
        refine V_get (0) fl_X7_20 dX7_endCut_27 hw.p0 rfl ?_
        refine V_iload_n dX7_endCut_30 rfl ?_
        refine V_rdV (5) mw_X2_versionOf mv_X7_141 dX7_endCut_31 (ct_X2_versionOf hw (Or.inr rfl) (nI i)) hw.p5 rfl rfl rfl (Nat.le_of_ble_eq_true rfl) (by decide) (by decide) (by decide) (by decide) ?_
        refine V_aload_n dX7_endCut_34 rfl ?_
        refine V_get (0) fl_X7_9 dX7_endCut_35 hw.p0 rfl ?_
        refine V_iload_n dX7_endCut_38 rfl ?_
        refine V_ialdN (1) dX7_endCut_39 hw.p1 (by omega) (by first | decide | omega) ?_
        refine V_icmp_eq 67 dX7_endCut_40 (by decide) (fun h40 => ?_) (fun h40 => ?_)
        · skip
          refine V_aload_n dX7_endCut_67 rfl ?_
          refine V_get (0) fl_X7_20 dX7_endCut_68 hw.p0 rfl ?_
          refine V_iload_n dX7_endCut_71 rfl ?_
          refine V_callV (5) mw_X2_drop mv_X7_101 dX7_endCut_72 (ct_X2_drop hw.1 (Or.inr rfl) (nI i)) hw.p5 rfl rfl rfl (Nat.le_of_ble_eq_true rfl) (by decide) (by decide) (by decide) (by decide) (fun r72 ws1 hp72 => ?_)
          obtain ⟨rfl, hw1⟩ := hp72
          have hw1 := hw.trans hw1
          refine V_iinc dX7_endCut_75 rfl rfl (by decide) ?_
          refine V_goto 7 dX7_endCut_78 (by decide) ?_
          have c : ¬ at10 (endG g i 6) (nI i) = -1 := fun c => h23 (if_pos c)
          exact ih (i + 1) _ _ (by omega) (by omega) (nI_1 i) (by rw [endG, endStep, if_neg c, if_pos h40]; exact hw1)
        · skip
          refine V_aload_n dX7_endCut_43 rfl ?_
          refine V_get (0) fl_X7_16 dX7_endCut_44 hw.p0 rfl ?_
          refine V_iload_n dX7_endCut_47 rfl ?_
          refine V_aload_n dX7_endCut_48 rfl ?_
          refine V_get (0) fl_X7_20 dX7_endCut_49 hw.p0 rfl ?_
          refine V_iload_n dX7_endCut_52 rfl ?_
          refine V_rdV (5) mw_X2_versionOf mv_X7_141 dX7_endCut_53 (ct_X2_versionOf hw (Or.inr rfl) (nI i)) hw.p5 rfl rfl rfl (Nat.le_of_ble_eq_true rfl) (by decide) (by decide) (by decide) (by decide) ?_
          refine V_aload_n dX7_endCut_56 rfl ?_
          refine V_get (0) fl_X7_20 dX7_endCut_57 hw.p0 rfl ?_
          refine V_iload_n dX7_endCut_60 rfl ?_
          refine V_rdV (5) mw_X2_worthOf mv_X7_144 dX7_endCut_61 (ct_X2_worthOf hw (Or.inr rfl) (nI i)) hw.p5 rfl rfl rfl (Nat.le_of_ble_eq_true rfl) (by decide) (by decide) (by decide) (by decide) ?_
          refine V_callV (2) mw_X2_put mv_X7_94 dX7_endCut_64 (ct_X2_put hw.1 (Or.inl rfl) (nI i) _ _) hw.p2 rfl rfl rfl (Nat.le_of_ble_eq_true rfl) (by decide) (by decide) (by decide) (by decide) (fun r64 ws1 hp64 => ?_)
          obtain ⟨rfl, hw1⟩ := hp64
          have hw1 := hw.trans hw1
          refine V_aload_n dX7_endCut_67 rfl ?_
          refine V_get (0) fl_X7_20 dX7_endCut_68 hw1.p0 rfl ?_
          refine V_iload_n dX7_endCut_71 rfl ?_
          refine V_callV (5) mw_X2_drop mv_X7_101 dX7_endCut_72 (ct_X2_drop hw1.1 (Or.inr rfl) (nI i)) hw1.p5 rfl rfl rfl (Nat.le_of_ble_eq_true rfl) (by decide) (by decide) (by decide) (by decide) (fun r72 ws2 hp72 => ?_)
          obtain ⟨rfl, hw2⟩ := hp72
          have hw2 := hw1.trans hw2
          refine V_iinc dX7_endCut_75 rfl rfl (by decide) ?_
          refine V_goto 7 dX7_endCut_78 (by decide) ?_
          have c : ¬ at10 (endG g i 6) (nI i) = -1 := fun c => h23 (if_pos c)
          exact ih (i + 1) _ _ (by omega) (by omega) (nI_1 i) (by rw [endG, endStep, if_neg c, if_neg h40]; exact hw2)
set_option maxHeartbeats 4000000 in
set_option maxRecDepth 20000 in
theorem ct_X7_endCut (hw : Wd E ad el g ws) {nP : Nat} (hP : g 0 9 = nI nP) (hP10 : nP ≤ 10) : Ct E yX7_endCut cX7_endCut 2 none 2 0 0 [.ref (ad 0)] ws (fun r w => r = none ∧ WF E ad el (endG g nP) ws w) := by
  refine Ct_of mw_X7_endCut rfl (Nat.le_of_ble_eq_true rfl) ?_
  have hw := WF.rf hw
  refine V_aload_n dX7_endCut_0 rfl ?_
  refine V_iconst (v := -1) dX7_endCut_1 (by decide) ?_
  refine W_put (0) hw (by decide) fp_X7_69 dX7_endCut_2 rfl rfl rfl rfl (Nat.le_of_ble_eq_true rfl) (fun ws1 hw1 => ?_)
  refine V_iconst (v := 0) dX7_endCut_5 (by decide) ?_
  refine V_istore_n dX7_endCut_6 (by decide) ?_
  exact lp_X7_endCut hP hP10 (nP + 1) 0 _ _ (Nat.zero_le _) (by omega) rfl hw1
end DK1
end
section
/-! ===== TrainDesk: greatest, and the calls that leave the trains alone ===== -/
/-- of the sets within M that have all of U: is s better than b (worth w), and does it go -/
def candB (g : Nat → Nat → Int32) (nN nT M U s : Nat) (b : Option Nat) (w : Int32) : Bool := decide (dif s M = 0) && (decide (s &&& U = U) && ((decide (w < sumI (g 4) s 10) || (decide (sumI (g 4) s 10 = w) && lowerB (nI s) (sI b))) && goesB g nN nT (nI s)))
def grL (g : Nat → Nat → Int32) (nN nT M U : Nat) : Nat → Option Nat → Int32 → Option Nat
  | 0, b, _ => b
  | k + 1, b, w => if k < U then b else if candB g nN nT M U k b w = true then grL g nN nT M U k (some k) (sumI (g 4) k 10) else grL g nN nT M U k b w
def grt (g : Nat → Nat → Int32) (nN nT M U : Nat) : Option Nat := grL g nN nT M U (M + 1) none (-1)
theorem nb {b : Bool} (h : b = false) : ¬ b = true := by rw [h]; decide
theorem grL_lt {g : Nat → Nat → Int32} {nN nT M U : Nat} : ∀ (k : Nat) (b : Option Nat) (w : Int32), k ≤ 1024 → (∀ s, b = some s → s < 1024) → ∀ s, grL g nN nT M U k b w = some s → s < 1024
  | 0, b, _, _, hb, s, h => hb s h
  | k + 1, b, w, hk, hb, s, h => by
    unfold grL at h
    split at h
    · exact hb s h
    · split at h
      · exact grL_lt k _ _ (by omega) (fun s h => by cases h; omega) s h
      · exact grL_lt k _ _ (by omega) hb s h
theorem NOK.to {g g' : Nat → Nat → Int32} {n : Nat} (h : NOK g n) (h1 : g' 9 = g 9) (h2 : g' 11 = g 11) : NOK g' n := fun k hk => by rw [h1, h2]; exact h k hk
theorem maskN_lt (f : Nat → Int32) : ∀ n, maskN f n < 2 ^ n
  | 0 => Nat.zero_lt_one
  | n + 1 => by
    unfold maskN
    have h := maskN_lt f n
    have h2 : 2 ^ n < 2 ^ (n + 1) := Nat.pow_lt_pow_right (by decide) (by omega)
    split
    · omega
    · exact Nat.or_lt_two_pow (by omega) h2
section DK2
variable {E : VE} {ad : Nat → Nat} {el : Nat} {g : Nat → Nat → Int32} {w0 ws : va_W}
theorem fin2 {p : Int32 × (Nat → Nat → Int32)} {x : Int32} {G : Nat → Nat → Int32} {w : va_W} (e : p = (x, G)) (h : WF E ad el G ws w) : some (Value.int x) = some (.int p.1) ∧ WF E ad el p.2 ws w := by subst e; exact ⟨rfl, h⟩
theorem fin1 {x y : Int32} (e : y = x) : some (Value.int x) = some (.int y) ∧ ws = ws := by subst e; exact ⟨rfl, rfl⟩
set_option maxHeartbeats 4000000 in
set_option maxRecDepth 20000 in
theorem lp_X7_greatest (hw : WF E ad el g w0 ws) {nN : Nat} (hN : g 8 7 = nI nN) (hN30 : nN ≤ 30) {nT : Nat} (hT : g 16 1 = nI nT) (hT12 : nT ≤ 12) {M U : Nat} (hM : M < 1024) (hU : U < 1024) : ∀ (k : Nat) (b : Option Nat) (w xb x : Int32) (z6 z7 : Option Value), xb = sI b → x = nI k + (-1) → k ≤ 1024 → (∀ s, b = some s → s < 1024) → grt g nN nT M U = grL g nN nT M U k b w → V E yX7_greatest cX7_greatest 8 (some (.int)) 4 0 0 (fun r w => r = some (.int (sI (grt g nN nT M U))) ∧ WF E ad el g w0 w) 23 [some (.ref (ad 0)), some (.int (nI M)), some (.int (nI U)), some (.int xb), some (.int w), some (.int x), z6, z7] [] ws 0 0 := by
  intro k
  induction k with
  | zero =>
    intro b w xb x z6 z7 hxb hx hk hb hinv
    subst hxb
    rw [show nI 0 + (-1 : Int32) = -1 from by decide] at hx
    subst hx
    refine V_iload dX7_greatest_23 rfl ?_
    refine V_iload_n dX7_greatest_25 rfl ?_
    refine V_icmp_lt 114 dX7_greatest_26 (by decide) (fun h26 => ?_) (fun h26 => absurd (show (-1 : Int32) < nI U from by have := nI_pos (n := U) (by omega); rw [Int32.lt_iff_toInt_lt, nI_toInt (by omega)]; show (-1 : Int) < _; omega) h26)
    refine V_iload_n dX7_greatest_114 rfl ?_
    refine V_iret dX7_greatest_115 rfl (by decide) (by decide) ?_
    exact ⟨by rw [hinv, grL], hw⟩
  | succ k ih =>
    intro b w xb x z6 z7 hxb hx hk hb hinv
    subst hxb
    rw [pk_m1] at hx
    subst hx
    refine V_iload dX7_greatest_23 rfl ?_
    refine V_iload_n dX7_greatest_25 rfl ?_
    refine V_icmp_lt 114 dX7_greatest_26 (by decide) (fun h26 => ?_) (fun h26 => ?_)
    · skip
      refine V_iload_n dX7_greatest_114 rfl ?_
      refine V_iret dX7_greatest_115 rfl (by decide) (by decide) ?_
      have hkU := ltK (a := k) (b := U) (by omega) (by omega) h26
      exact ⟨by rw [hinv, grL, if_pos hkU], hw⟩
    · skip
      have hkU := nltK (a := k) (b := U) (by omega) (by omega) h26
      refine V_iload dX7_greatest_29 rfl ?_
      refine V_iload_n dX7_greatest_31 rfl ?_
      refine V_iconst (v := -1) dX7_greatest_32 (by decide) ?_
      refine V_ixor dX7_greatest_33 ?_
      refine V_iand dX7_greatest_34 ?_
      rw [nx_dif]
      refine V_if_ne 108 dX7_greatest_35 (by decide) (fun h35 => ?_) (fun h35 => ?_)
      · skip
        refine V_iinc dX7_greatest_108 rfl rfl (by decide) ?_
        refine V_goto 23 dX7_greatest_111 (by decide) ?_
        have q1 : ¬ dif k M = 0 := fun z => h35 (by rw [z]; rfl)
        have c : candB g nN nT M U k b w = false := by simp [candB, q1]
        exact ih _ _ _ _ _ _ rfl rfl (by omega) hb (by rw [hinv, grL, if_neg (by omega), if_neg (nb c)])
      · skip
        refine V_iload dX7_greatest_38 rfl ?_
        refine V_iload_n dX7_greatest_40 rfl ?_
        refine V_iand dX7_greatest_41 ?_
        refine V_iload_n dX7_greatest_42 rfl ?_
        refine V_icmp_ne 108 dX7_greatest_43 (by decide) (fun h43 => ?_) (fun h43 => ?_)
        · skip
          refine V_iinc dX7_greatest_108 rfl rfl (by decide) ?_
          refine V_goto 23 dX7_greatest_111 (by decide) ?_
          have q1 : dif k M = 0 := nI_inj1024 (dif_lt (by omega)) (by decide) h35
          have q2 : ¬ k &&& U = U := fun z => h43 (by rw [nx_and, z])
          have c : candB g nN nT M U k b w = false := by simp [candB, q1, q2]
          exact ih _ _ _ _ _ _ rfl rfl (by omega) hb (by rw [hinv, grL, if_neg (by omega), if_neg (nb c)])
        · skip
          refine V_aload_n dX7_greatest_46 rfl ?_
          refine V_get (0) fl_X7_16 dX7_greatest_47 hw.p0 rfl ?_
          refine V_iload dX7_greatest_50 rfl ?_
          refine V_rdV (2) mw_X2_sum mv_X7_131 dX7_greatest_52 (ct_X2_sum hw (Or.inl rfl) k (by omega)) hw.p2 rfl rfl rfl (Nat.le_of_ble_eq_true rfl) (by decide) (by decide) (by decide) (by decide) ?_
          refine V_istore dX7_greatest_55 (by decide) ?_
          refine V_iload dX7_greatest_57 rfl ?_
          refine V_iload dX7_greatest_59 rfl ?_
          refine V_icmp_gt 80 dX7_greatest_61 (by decide) (fun h61 => ?_) (fun h61 => ?_)
          · skip
            refine V_iconst (v := 1) dX7_greatest_80 (by decide) ?_
            refine V_goto 85 dX7_greatest_81 (by decide) ?_
            refine V_istore dX7_greatest_85 (by decide) ?_
            refine V_iload dX7_greatest_87 rfl ?_
            refine V_if_eq 108 dX7_greatest_89 (by decide) (fun h89 => absurd h89 (by decide)) (fun h89 => ?_)
            refine V_aload_n dX7_greatest_92 rfl ?_
            refine V_iload dX7_greatest_93 rfl ?_
            refine V_rdV (0) mw_X7_goes mv_X7_151 dX7_greatest_95 (ct_X7_goes hw hN hN30 hT hT12 _) hw.p0 rfl rfl rfl (Nat.le_of_ble_eq_true rfl) (by decide) (by decide) (by decide) (by decide) ?_
            refine V_if_eq 108 dX7_greatest_98 (by decide) (fun h98 => ?_) (fun h98 => ?_)
            · skip
              refine V_iinc dX7_greatest_108 rfl rfl (by decide) ?_
              refine V_goto 23 dX7_greatest_111 (by decide) ?_
              have q1 : dif k M = 0 := nI_inj1024 (dif_lt (by omega)) (by decide) h35
              have q2 : k &&& U = U := nI_inj1024 (Nat.lt_of_le_of_lt Nat.and_le_left (by omega)) hU (by rw [← nx_and]; exact h43)
              have h61 : w < sumI (g 4) k 10 := h61
              have q5 := bI_0 h98
              have c : candB g nN nT M U k b w = false := by simp [candB, q1, q2, h61, q5]
              exact ih _ _ _ _ _ _ rfl rfl (by omega) hb (by rw [hinv, grL, if_neg (by omega), if_neg (nb c)])
            · skip
              refine V_iload dX7_greatest_101 rfl ?_
              refine V_istore_n dX7_greatest_103 (by decide) ?_
              refine V_iload dX7_greatest_104 rfl ?_
              refine V_istore dX7_greatest_106 (by decide) ?_
              refine V_iinc dX7_greatest_108 rfl rfl (by decide) ?_
              refine V_goto 23 dX7_greatest_111 (by decide) ?_
              have q1 : dif k M = 0 := nI_inj1024 (dif_lt (by omega)) (by decide) h35
              have q2 : k &&& U = U := nI_inj1024 (Nat.lt_of_le_of_lt Nat.and_le_left (by omega)) hU (by rw [← nx_and]; exact h43)
              have h61 : w < sumI (g 4) k 10 := h61
              have q5 := bI_1 h98
              have c : candB g nN nT M U k b w = true := by simp [candB, q1, q2, h61, q5]
              exact ih (some k) _ _ _ _ _ rfl rfl (by omega) (fun s h => by cases h; omega) (by rw [hinv, grL, if_neg (by omega), if_pos c])
          · skip
            refine V_iload dX7_greatest_64 rfl ?_
            refine V_iload dX7_greatest_66 rfl ?_
            refine V_icmp_ne 84 dX7_greatest_68 (by decide) (fun h68 => ?_) (fun h68 => ?_)
            · skip
              refine V_iconst (v := 0) dX7_greatest_84 (by decide) ?_
              refine V_istore dX7_greatest_85 (by decide) ?_
              refine V_iload dX7_greatest_87 rfl ?_
              refine V_if_eq 108 dX7_greatest_89 (by decide) (fun h89 => ?_) (fun h89 => absurd rfl h89)
              refine V_iinc dX7_greatest_108 rfl rfl (by decide) ?_
              refine V_goto 23 dX7_greatest_111 (by decide) ?_
              have q1 : dif k M = 0 := nI_inj1024 (dif_lt (by omega)) (by decide) h35
              have q2 : k &&& U = U := nI_inj1024 (Nat.lt_of_le_of_lt Nat.and_le_left (by omega)) hU (by rw [← nx_and]; exact h43)
              have h61 : ¬ w < sumI (g 4) k 10 := h61
              have h68 : ¬ sumI (g 4) k 10 = w := h68
              have c : candB g nN nT M U k b w = false := by simp [candB, q1, q2, h61, h68]
              exact ih _ _ _ _ _ _ rfl rfl (by omega) hb (by rw [hinv, grL, if_neg (by omega), if_neg (nb c)])
            · skip
              refine V_iload dX7_greatest_71 rfl ?_
              refine V_iload_n dX7_greatest_73 rfl ?_
              refine V_rdS mw_X7_hasLowerPart ms_X7_251 dX7_greatest_74 (ct_X7_hasLowerPart _ _) rfl rfl (Nat.le_of_ble_eq_true rfl) (by decide) (by decide) (by decide) (by decide) ?_
              refine V_if_eq 84 dX7_greatest_77 (by decide) (fun h77 => ?_) (fun h77 => ?_)
              · skip
                refine V_iconst (v := 0) dX7_greatest_84 (by decide) ?_
                refine V_istore dX7_greatest_85 (by decide) ?_
                refine V_iload dX7_greatest_87 rfl ?_
                refine V_if_eq 108 dX7_greatest_89 (by decide) (fun h89 => ?_) (fun h89 => absurd rfl h89)
                refine V_iinc dX7_greatest_108 rfl rfl (by decide) ?_
                refine V_goto 23 dX7_greatest_111 (by decide) ?_
                have q1 : dif k M = 0 := nI_inj1024 (dif_lt (by omega)) (by decide) h35
                have q2 : k &&& U = U := nI_inj1024 (Nat.lt_of_le_of_lt Nat.and_le_left (by omega)) hU (by rw [← nx_and]; exact h43)
                have h61 : ¬ w < sumI (g 4) k 10 := h61
                have h68 : sumI (g 4) k 10 = w := h68
                have q4 := bI_0 h77
                have c : candB g nN nT M U k b w = false := by simp [candB, q1, q2, h61, h68, q4]
                exact ih _ _ _ _ _ _ rfl rfl (by omega) hb (by rw [hinv, grL, if_neg (by omega), if_neg (nb c)])
              · skip
                refine V_iconst (v := 1) dX7_greatest_80 (by decide) ?_
                refine V_goto 85 dX7_greatest_81 (by decide) ?_
                refine V_istore dX7_greatest_85 (by decide) ?_
                refine V_iload dX7_greatest_87 rfl ?_
                refine V_if_eq 108 dX7_greatest_89 (by decide) (fun h89 => absurd h89 (by decide)) (fun h89 => ?_)
                refine V_aload_n dX7_greatest_92 rfl ?_
                refine V_iload dX7_greatest_93 rfl ?_
                refine V_rdV (0) mw_X7_goes mv_X7_151 dX7_greatest_95 (ct_X7_goes hw hN hN30 hT hT12 _) hw.p0 rfl rfl rfl (Nat.le_of_ble_eq_true rfl) (by decide) (by decide) (by decide) (by decide) ?_
                refine V_if_eq 108 dX7_greatest_98 (by decide) (fun h98 => ?_) (fun h98 => ?_)
                · skip
                  refine V_iinc dX7_greatest_108 rfl rfl (by decide) ?_
                  refine V_goto 23 dX7_greatest_111 (by decide) ?_
                  have q1 : dif k M = 0 := nI_inj1024 (dif_lt (by omega)) (by decide) h35
                  have q2 : k &&& U = U := nI_inj1024 (Nat.lt_of_le_of_lt Nat.and_le_left (by omega)) hU (by rw [← nx_and]; exact h43)
                  have h61 : ¬ w < sumI (g 4) k 10 := h61
                  have h68 : sumI (g 4) k 10 = w := h68
                  have q4 := bI_1 h77
                  have q5 := bI_0 h98
                  have c : candB g nN nT M U k b w = false := by simp [candB, q1, q2, h61, h68, q4, q5]
                  exact ih _ _ _ _ _ _ rfl rfl (by omega) hb (by rw [hinv, grL, if_neg (by omega), if_neg (nb c)])
                · skip
                  refine V_iload dX7_greatest_101 rfl ?_
                  refine V_istore_n dX7_greatest_103 (by decide) ?_
                  refine V_iload dX7_greatest_104 rfl ?_
                  refine V_istore dX7_greatest_106 (by decide) ?_
                  refine V_iinc dX7_greatest_108 rfl rfl (by decide) ?_
                  refine V_goto 23 dX7_greatest_111 (by decide) ?_
                  have q1 : dif k M = 0 := nI_inj1024 (dif_lt (by omega)) (by decide) h35
                  have q2 : k &&& U = U := nI_inj1024 (Nat.lt_of_le_of_lt Nat.and_le_left (by omega)) hU (by rw [← nx_and]; exact h43)
                  have h61 : ¬ w < sumI (g 4) k 10 := h61
                  have h68 : sumI (g 4) k 10 = w := h68
                  have q4 := bI_1 h77
                  have q5 := bI_1 h98
                  have c : candB g nN nT M U k b w = true := by simp [candB, q1, q2, h61, h68, q4, q5]
                  exact ih (some k) _ _ _ _ _ rfl rfl (by omega) (fun s h => by cases h; omega) (by rw [hinv, grL, if_neg (by omega), if_pos c])
set_option maxHeartbeats 4000000 in
set_option maxRecDepth 20000 in
theorem ct_X7_greatest (hw : Wd E ad el g ws) {nN : Nat} (hN : g 8 7 = nI nN) (hN30 : nN ≤ 30) (hok : NOK g nN) {nT : Nat} (hT : g 16 1 = nI nT) (hT12 : nT ≤ 12) {M U : Nat} (hM : M < 1024) (hU : U < 1024) : Ct E yX7_greatest cX7_greatest 8 (some (.int)) 4 0 0 [.ref (ad 0), .int (nI M), .int (nI U)] ws (fun r w => r = some (.int (sI (grt (wTo g nN) nN nT M U))) ∧ WF E ad el (wTo g nN) ws w) := by
  refine Ct_of mw_X7_greatest rfl (Nat.le_of_ble_eq_true rfl) ?_
  have hw := WF.rf hw
  refine V_aload_n dX7_greatest_0 rfl ?_
  refine V_get (0) fl_X7_26 dX7_greatest_1 hw.p0 rfl ?_
  refine V_aload_n dX7_greatest_4 rfl ?_
  refine V_get (0) fl_X7_9 dX7_greatest_5 hw.p0 rfl ?_
  refine V_aload_n dX7_greatest_8 rfl ?_
  refine V_get (0) fl_X7_16 dX7_greatest_9 hw.p0 rfl ?_
  refine V_callV (8) mw_X1_weigh mv_X7_147 dX7_greatest_12 (ct_X1_weigh hw.1 hN hN30 hok) hw.p8 rfl rfl rfl (Nat.le_of_ble_eq_true rfl) (by decide) (by decide) (by decide) (by decide) (fun r12 ws1 hp12 => ?_)
  obtain ⟨rfl, hw1⟩ := hp12
  refine V_iconst (v := -1) dX7_greatest_15 (by decide) ?_
  refine V_istore_n dX7_greatest_16 (by decide) ?_
  refine V_iconst (v := -1) dX7_greatest_17 (by decide) ?_
  refine V_istore dX7_greatest_18 (by decide) ?_
  refine V_iload_n dX7_greatest_20 rfl ?_
  refine V_istore dX7_greatest_21 (by decide) ?_
  exact lp_X7_greatest (g := wTo g nN) hw1 hN hN30 hT hT12 hM hU (M + 1) none (-1) _ _ _ _ rfl (pk_m1 M).symm (by omega) (fun _ h => by cases h) rfl
def dPart (g : Nat → Nat → Int32) (v : Int32) : Int32 × (Nat → Nat → Int32) := if cutB g = true then (-1, g) else if 10 ≤ g 0 9 then (-1, g) else if isVer v = true then (g 0 9 + 1 - 1, va_up (va_up g 1 (upd (g 1) (g 0 9).toNatClampNeg v)) 0 (upd (g 0) 9 (g 0 9 + 1))) else (-1, g)
set_option maxHeartbeats 4000000 in
set_option maxRecDepth 20000 in
theorem ct_X7_part (hw : Wd E ad el g ws) {nP : Nat} (hP : g 0 9 = nI nP) (hP10 : nP ≤ 10) (v : Int32) : Ct E yX7_part cX7_part 2 (some (.int)) 1 0 0 [.ref (ad 0), .int v] ws (fun r w => r = some (.int (dPart g v).1) ∧ WF E ad el (dPart g v).2 ws w) := by
  refine Ct_of mw_X7_part rfl (Nat.le_of_ble_eq_true rfl) ?_
  have hw := WF.rf hw
  refine V_aload_n dX7_part_0 rfl ?_
  refine V_rdV (0) mw_X7_isCutAtHand mv_X7_72 dX7_part_1 (ct_X7_isCutAtHand hw) hw.p0 rfl rfl rfl (Nat.le_of_ble_eq_true rfl) (by decide) (by decide) (by decide) (by decide) ?_
  refine V_if_ne 23 dX7_part_4 (by decide) (fun h4 => ?_) (fun h4 => ?_)
  · skip
    refine V_iconst (v := -1) dX7_part_23 (by decide) ?_
    refine V_iret dX7_part_24 rfl (by decide) (by decide) ?_
    exact fin2 (by rw [dPart, if_pos (bI_1 h4)]) hw
  · skip
    refine V_aload_n dX7_part_7 rfl ?_
    refine V_get (0) fl_X7_65 dX7_part_8 hw.p0 rfl ?_
    refine V_bipush (v := 10) dX7_part_11 (by decide) ?_
    refine V_icmp_ge 23 dX7_part_13 (by decide) (fun h13 => ?_) (fun h13 => ?_)
    · skip
      refine V_iconst (v := -1) dX7_part_23 (by decide) ?_
      refine V_iret dX7_part_24 rfl (by decide) (by decide) ?_
      exact fin2 (by rw [dPart, if_neg (nb (bI_0 h4)), if_pos h13]) hw
    · skip
      refine V_iload_n dX7_part_16 rfl ?_
      refine V_rdS mw_X7_isVersion ms_X7_76 dX7_part_17 (ct_X7_isVersion v) rfl rfl (Nat.le_of_ble_eq_true rfl) (by decide) (by decide) (by decide) (by decide) ?_
      refine V_if_ne 25 dX7_part_20 (by decide) (fun h20 => ?_) (fun h20 => ?_)
      · skip
        refine V_aload_n dX7_part_25 rfl ?_
        refine V_get (0) fl_X7_9 dX7_part_26 hw.p0 rfl ?_
        refine V_aload_n dX7_part_29 rfl ?_
        refine V_get (0) fl_X7_65 dX7_part_30 hw.p0 rfl ?_
        refine V_iload_n dX7_part_33 rfl ?_
        refine W_iast (1) hw (by decide) (fun _ => rfl) dX7_part_34 (by rw [hP] at h13 ⊢; exact vp_in_nI (nleK (a := 10) (b := nP) (by decide) (by omega) h13) (by decide)) (fun ws1 hw1 => ?_)
        refine V_aload_n dX7_part_35 rfl ?_
        refine V_dup dX7_part_36 rfl ?_
        refine V_get (0) fl_X7_65 dX7_part_37 hw1.p0 rfl ?_
        refine V_iconst (v := 1) dX7_part_40 (by decide) ?_
        refine V_iadd dX7_part_41 ?_
        refine W_put (0) hw1 (by decide) fp_X7_65 dX7_part_42 rfl rfl rfl rfl (Nat.le_of_ble_eq_true rfl) (fun ws2 hw2 => ?_)
        refine V_aload_n dX7_part_45 rfl ?_
        refine V_get (0) fl_X7_65 dX7_part_46 hw2.p0 rfl ?_
        refine V_iconst (v := 1) dX7_part_49 (by decide) ?_
        refine V_isub dX7_part_50 ?_
        refine V_iret dX7_part_51 rfl (by decide) (by decide) ?_
        exact fin2 (by rw [dPart, if_neg (nb (bI_0 h4)), if_neg h13, if_pos (bI_1 h20)]; rfl) hw2
      · skip
        refine V_iconst (v := -1) dX7_part_23 (by decide) ?_
        refine V_iret dX7_part_24 rfl (by decide) (by decide) ?_
        exact fin2 (by rw [dPart, if_neg (nb (bI_0 h4)), if_neg h13, if_neg (nb (bI_0 h20))]) hw
def hTC (g : Nat → Nat → Int32) (p : Int32) : Int32 := if chB g p = true then at10 (g 3) p else g 1 p.toNatClampNeg
abbrev opn (g : Nat → Nat → Int32) : Nat := if cutB g = true then 5 else 2
theorem opn_or (g : Nat → Nat → Int32) : opn g = 2 ∨ opn g = 5 := by
  unfold opn
  split
  · exact Or.inr rfl
  · exact Or.inl rfl
def dOffer (g : Nat → Nat → Int32) (p v u : Int32) : Int32 × (Nat → Nat → Int32) := if isPt g p = true then if isVer v = true then if isWor u = true then if v = hTC g p then (0, g) else (1, put10 g (opn g) p v u) else (0, g) else (0, g) else (0, g)
def dWithdraw (g : Nat → Nat → Int32) (p : Int32) : Int32 × (Nat → Nat → Int32) := if isPt g p = true then if at10 (g (opn g + 1)) p = -1 then (0, g) else (1, put10 g (opn g) p (-1) (-1)) else (0, g)
set_option maxHeartbeats 4000000 in
set_option maxRecDepth 20000 in
theorem ct_X7_offer (hw : Wd E ad el g ws) {nP : Nat} (hP : g 0 9 = nI nP) (hP10 : nP ≤ 10) (p v u : Int32) : Ct E yX7_offer cX7_offer 4 (some (.boolean)) 3 0 0 [.ref (ad 0), .int p, .int v, .int u] ws (fun r w => r = some (.int (dOffer g p v u).1) ∧ WF E ad el (dOffer g p v u).2 ws w) := by
  refine Ct_of mw_X7_offer rfl (Nat.le_of_ble_eq_true rfl) ?_
  have hw := WF.rf hw
  refine V_aload_n dX7_offer_0 rfl ?_
  refine V_iload_n dX7_offer_1 rfl ?_
  refine V_rdV (0) mw_X7_isPart mv_X7_80 dX7_offer_2 (ct_X7_isPart hw p) hw.p0 rfl rfl rfl (Nat.le_of_ble_eq_true rfl) (by decide) (by decide) (by decide) (by decide) ?_
  refine V_if_eq 31 dX7_offer_5 (by decide) (fun h5 => ?_) (fun h5 => ?_)
  · skip
    refine V_iconst (v := 0) dX7_offer_31 (by decide) ?_
    refine V_zret dX7_offer_32 rfl (by first | exact Or.inl rfl | exact Or.inr rfl) (by decide) (by decide) ?_
    exact fin2 (by rw [dOffer, if_neg (nb (bI_0 h5))]) hw
  · skip
    refine V_iload_n dX7_offer_8 rfl ?_
    refine V_rdS mw_X7_isVersion ms_X7_76 dX7_offer_9 (ct_X7_isVersion v) rfl rfl (Nat.le_of_ble_eq_true rfl) (by decide) (by decide) (by decide) (by decide) ?_
    refine V_if_eq 31 dX7_offer_12 (by decide) (fun h12 => ?_) (fun h12 => ?_)
    · skip
      refine V_iconst (v := 0) dX7_offer_31 (by decide) ?_
      refine V_zret dX7_offer_32 rfl (by first | exact Or.inl rfl | exact Or.inr rfl) (by decide) (by decide) ?_
      exact fin2 (by rw [dOffer, if_pos (bI_1 h5), if_neg (nb (bI_0 h12))]) hw
    · skip
      refine V_iload_n dX7_offer_15 rfl ?_
      refine V_rdS mw_X7_isWorth ms_X7_83 dX7_offer_16 (ct_X7_isWorth u) rfl rfl (Nat.le_of_ble_eq_true rfl) (by decide) (by decide) (by decide) (by decide) ?_
      refine V_if_eq 31 dX7_offer_19 (by decide) (fun h19 => ?_) (fun h19 => ?_)
      · skip
        refine V_iconst (v := 0) dX7_offer_31 (by decide) ?_
        refine V_zret dX7_offer_32 rfl (by first | exact Or.inl rfl | exact Or.inr rfl) (by decide) (by decide) ?_
        exact fin2 (by rw [dOffer, if_pos (bI_1 h5), if_pos (bI_1 h12), if_neg (nb (bI_0 h19))]) hw
      · skip
        refine V_iload_n dX7_offer_22 rfl ?_
        refine V_aload_n dX7_offer_23 rfl ?_
        refine V_iload_n dX7_offer_24 rfl ?_
        refine V_rdV (0) mw_X7_homeToCome mv_X7_86 dX7_offer_25 (ct_X7_homeToCome hw (p := p) (by obtain ⟨j, hj, rfl⟩ := isPt_in hP hP10 (bI_1 h5); exact vp_in_nI (by omega) (by decide))) hw.p0 rfl rfl rfl (Nat.le_of_ble_eq_true rfl) (by decide) (by decide) (by decide) (by decide) ?_
        refine V_icmp_ne 33 dX7_offer_28 (by decide) (fun h28 => ?_) (fun h28 => ?_)
        · skip
          refine V_aload_n dX7_offer_33 rfl ?_
          refine V_callV (0) mw_X7_openOffers mv_X7_90 dX7_offer_34 (ct_X7_openOffers hw) hw.p0 rfl rfl rfl (Nat.le_of_ble_eq_true rfl) (by decide) (by decide) (by decide) (by decide) (fun r34 ws1 hp34 => ?_)
          obtain ⟨rfl, rfl⟩ := hp34
          have hw1 := hw
          refine V_iload_n dX7_offer_37 rfl ?_
          refine V_iload_n dX7_offer_38 rfl ?_
          refine V_iload_n dX7_offer_39 rfl ?_
          refine V_callV (opn g) mw_X2_put mv_X7_94 dX7_offer_40 (ct_X2_put hw1.1 (opn_or g) p v u) (hw1.o0 (opn_or g)) rfl rfl rfl (Nat.le_of_ble_eq_true rfl) (by decide) (by decide) (by decide) (by decide) (fun r40 ws2 hp40 => ?_)
          obtain ⟨rfl, hw2⟩ := hp40
          have hw2 := hw1.trans hw2
          refine V_iconst (v := 1) dX7_offer_43 (by decide) ?_
          refine V_zret dX7_offer_44 rfl (by first | exact Or.inl rfl | exact Or.inr rfl) (by decide) (by decide) ?_
          exact fin2 (by rw [dOffer, if_pos (bI_1 h5), if_pos (bI_1 h12), if_pos (bI_1 h19), if_neg (by rw [hTC]; exact h28)]) hw2
        · skip
          refine V_iconst (v := 0) dX7_offer_31 (by decide) ?_
          refine V_zret dX7_offer_32 rfl (by first | exact Or.inl rfl | exact Or.inr rfl) (by decide) (by decide) ?_
          exact fin2 (by rw [dOffer, if_pos (bI_1 h5), if_pos (bI_1 h12), if_pos (bI_1 h19), if_pos (by rw [hTC]; exact h28)]) hw
set_option maxHeartbeats 4000000 in
set_option maxRecDepth 20000 in
theorem ct_X7_withdraw (hw : Wd E ad el g ws) (p : Int32) : Ct E yX7_withdraw cX7_withdraw 2 (some (.boolean)) 2 0 0 [.ref (ad 0), .int p] ws (fun r w => r = some (.int (dWithdraw g p).1) ∧ WF E ad el (dWithdraw g p).2 ws w) := by
  refine Ct_of mw_X7_withdraw rfl (Nat.le_of_ble_eq_true rfl) ?_
  have hw := WF.rf hw
  refine V_aload_n dX7_withdraw_0 rfl ?_
  refine V_iload_n dX7_withdraw_1 rfl ?_
  refine V_rdV (0) mw_X7_isPart mv_X7_80 dX7_withdraw_2 (ct_X7_isPart hw p) hw.p0 rfl rfl rfl (Nat.le_of_ble_eq_true rfl) (by decide) (by decide) (by decide) (by decide) ?_
  refine V_if_eq 19 dX7_withdraw_5 (by decide) (fun h5 => ?_) (fun h5 => ?_)
  · skip
    refine V_iconst (v := 0) dX7_withdraw_19 (by decide) ?_
    refine V_zret dX7_withdraw_20 rfl (by first | exact Or.inl rfl | exact Or.inr rfl) (by decide) (by decide) ?_
    exact fin2 (by rw [dWithdraw, if_neg (nb (bI_0 h5))]) hw
  · skip
    refine V_aload_n dX7_withdraw_8 rfl ?_
    refine V_callV (0) mw_X7_openOffers mv_X7_90 dX7_withdraw_9 (ct_X7_openOffers hw) hw.p0 rfl rfl rfl (Nat.le_of_ble_eq_true rfl) (by decide) (by decide) (by decide) (by decide) (fun r9 ws1 hp9 => ?_)
    obtain ⟨rfl, rfl⟩ := hp9
    have hw1 := hw
    refine V_iload_n dX7_withdraw_12 rfl ?_
    refine V_rdV (opn g) mw_X2_has mv_X7_98 dX7_withdraw_13 (ct_X2_has hw1 (opn_or g) p) (hw1.o0 (opn_or g)) rfl rfl rfl (Nat.le_of_ble_eq_true rfl) (by decide) (by decide) (by decide) (by decide) ?_
    refine V_if_ne 21 dX7_withdraw_16 (by decide) (fun h16 => ?_) (fun h16 => ?_)
    · skip
      refine V_aload_n dX7_withdraw_21 rfl ?_
      refine V_callV (0) mw_X7_openOffers mv_X7_90 dX7_withdraw_22 (ct_X7_openOffers hw1) hw1.p0 rfl rfl rfl (Nat.le_of_ble_eq_true rfl) (by decide) (by decide) (by decide) (by decide) (fun r22 ws2 hp22 => ?_)
      obtain ⟨rfl, rfl⟩ := hp22
      have hw2 := hw1
      refine V_iload_n dX7_withdraw_25 rfl ?_
      refine V_callV (opn g) mw_X2_drop mv_X7_101 dX7_withdraw_26 (ct_X2_drop hw2.1 (opn_or g) p) (hw2.o0 (opn_or g)) rfl rfl rfl (Nat.le_of_ble_eq_true rfl) (by decide) (by decide) (by decide) (by decide) (fun r26 ws3 hp26 => ?_)
      obtain ⟨rfl, hw3⟩ := hp26
      have hw3 := hw2.trans hw3
      refine V_iconst (v := 1) dX7_withdraw_29 (by decide) ?_
      refine V_zret dX7_withdraw_30 rfl (by first | exact Or.inl rfl | exact Or.inr rfl) (by decide) (by decide) ?_
      have c : ¬ at10 (g (opn g + 1)) p = -1 := fun c => h16 (if_pos c)
      exact fin2 (by rw [dWithdraw, if_pos (bI_1 h5), if_neg c]) hw3
    · skip
      refine V_iconst (v := 0) dX7_withdraw_19 (by decide) ?_
      refine V_zret dX7_withdraw_20 rfl (by first | exact Or.inl rfl | exact Or.inr rfl) (by decide) (by decide) ?_
      have c : at10 (g (opn g + 1)) p = -1 := by
        by_cases c : at10 (g (opn g + 1)) p = -1
        · exact c
        · rw [if_neg c] at h16; exact absurd h16 (by decide)
      exact fin2 (by rw [dWithdraw, if_pos (bI_1 h5), if_pos c]) hw1
def dNeed (g : Nat → Nat → Int32) (p v o lo hi : Int32) : Int32 × (Nat → Nat → Int32) := if cutB g = true then (-1, g) else if isPt g p = true then if isPt g o = true then if p = o then (-1, g) else if isVer v = true then if isVer lo = true then if isVer hi = true then if lo ≤ hi then (if g 8 7 < 30 then g 8 7 + 1 - 1 else -1, if g 8 7 < 30 then addNeed g p v o lo hi else g) else (-1, g) else (-1, g) else (-1, g) else (-1, g) else (-1, g) else (-1, g)
def dTest (g : Nat → Nat → Int32) (set : Int32) : Int32 × (Nat → Nat → Int32) := if cutB g = true then (-1, g) else if set = 0 then (-1, g) else if areP g set = true then (if g 16 1 < 12 then g 16 1 + 1 - 1 else -1, if g 16 1 < 12 then addTest g set else g) else (-1, g)
set_option maxHeartbeats 4000000 in
set_option maxRecDepth 20000 in
theorem ct_X7_need (hw : Wd E ad el g ws) {nN : Nat} (hN : g 8 7 = nI nN) (hN30 : nN ≤ 30) (p v o lo hi : Int32) : Ct E yX7_need cX7_need 6 (some (.int)) 1 0 0 [.ref (ad 0), .int p, .int v, .int o, .int lo, .int hi] ws (fun r w => r = some (.int (dNeed g p v o lo hi).1) ∧ WF E ad el (dNeed g p v o lo hi).2 ws w) := by
  refine Ct_of mw_X7_need rfl (Nat.le_of_ble_eq_true rfl) ?_
  have hw := WF.rf hw
  have hin : g 8 7 < 30 → vp_in (g 8 7) 30 := fun h => by rw [hN] at h ⊢; exact vp_in_nI (ltK (a := nN) (b := 30) (by omega) (by decide) h) (by decide)
  refine V_aload_n dX7_need_0 rfl ?_
  refine V_rdV (0) mw_X7_isCutAtHand mv_X7_72 dX7_need_1 (ct_X7_isCutAtHand hw) hw.p0 rfl rfl rfl (Nat.le_of_ble_eq_true rfl) (by decide) (by decide) (by decide) (by decide) ?_
  refine V_if_ne 28 dX7_need_4 (by decide) (fun h4 => ?_) (fun h4 => ?_)
  · skip
    refine V_iconst (v := -1) dX7_need_28 (by decide) ?_
    refine V_iret dX7_need_29 rfl (by decide) (by decide) ?_
    exact fin2 (by rw [dNeed, if_pos (bI_1 h4)]) hw
  · skip
    refine V_aload_n dX7_need_7 rfl ?_
    refine V_iload_n dX7_need_8 rfl ?_
    refine V_rdV (0) mw_X7_isPart mv_X7_80 dX7_need_9 (ct_X7_isPart hw p) hw.p0 rfl rfl rfl (Nat.le_of_ble_eq_true rfl) (by decide) (by decide) (by decide) (by decide) ?_
    refine V_if_eq 28 dX7_need_12 (by decide) (fun h12 => ?_) (fun h12 => ?_)
    · skip
      refine V_iconst (v := -1) dX7_need_28 (by decide) ?_
      refine V_iret dX7_need_29 rfl (by decide) (by decide) ?_
      exact fin2 (by rw [dNeed, if_neg (nb (bI_0 h4)), if_neg (nb (bI_0 h12))]) hw
    · skip
      refine V_aload_n dX7_need_15 rfl ?_
      refine V_iload_n dX7_need_16 rfl ?_
      refine V_rdV (0) mw_X7_isPart mv_X7_80 dX7_need_17 (ct_X7_isPart hw o) hw.p0 rfl rfl rfl (Nat.le_of_ble_eq_true rfl) (by decide) (by decide) (by decide) (by decide) ?_
      refine V_if_eq 28 dX7_need_20 (by decide) (fun h20 => ?_) (fun h20 => ?_)
      · skip
        refine V_iconst (v := -1) dX7_need_28 (by decide) ?_
        refine V_iret dX7_need_29 rfl (by decide) (by decide) ?_
        exact fin2 (by rw [dNeed, if_neg (nb (bI_0 h4)), if_pos (bI_1 h12), if_neg (nb (bI_0 h20))]) hw
      · skip
        refine V_iload_n dX7_need_23 rfl ?_
        refine V_iload_n dX7_need_24 rfl ?_
        refine V_icmp_ne 30 dX7_need_25 (by decide) (fun h25 => ?_) (fun h25 => ?_)
        · skip
          refine V_iload_n dX7_need_30 rfl ?_
          refine V_rdS mw_X7_isVersion ms_X7_76 dX7_need_31 (ct_X7_isVersion v) rfl rfl (Nat.le_of_ble_eq_true rfl) (by decide) (by decide) (by decide) (by decide) ?_
          refine V_if_eq 60 dX7_need_34 (by decide) (fun h34 => ?_) (fun h34 => ?_)
          · skip
            refine V_iconst (v := -1) dX7_need_60 (by decide) ?_
            refine V_iret dX7_need_61 rfl (by decide) (by decide) ?_
            exact fin2 (by rw [dNeed, if_neg (nb (bI_0 h4)), if_pos (bI_1 h12), if_pos (bI_1 h20), if_neg h25, if_neg (nb (bI_0 h34))]) hw
          · skip
            refine V_iload dX7_need_37 rfl ?_
            refine V_rdS mw_X7_isVersion ms_X7_76 dX7_need_39 (ct_X7_isVersion lo) rfl rfl (Nat.le_of_ble_eq_true rfl) (by decide) (by decide) (by decide) (by decide) ?_
            refine V_if_eq 60 dX7_need_42 (by decide) (fun h42 => ?_) (fun h42 => ?_)
            · skip
              refine V_iconst (v := -1) dX7_need_60 (by decide) ?_
              refine V_iret dX7_need_61 rfl (by decide) (by decide) ?_
              exact fin2 (by rw [dNeed, if_neg (nb (bI_0 h4)), if_pos (bI_1 h12), if_pos (bI_1 h20), if_neg h25, if_pos (bI_1 h34), if_neg (nb (bI_0 h42))]) hw
            · skip
              refine V_iload dX7_need_45 rfl ?_
              refine V_rdS mw_X7_isVersion ms_X7_76 dX7_need_47 (ct_X7_isVersion hi) rfl rfl (Nat.le_of_ble_eq_true rfl) (by decide) (by decide) (by decide) (by decide) ?_
              refine V_if_eq 60 dX7_need_50 (by decide) (fun h50 => ?_) (fun h50 => ?_)
              · skip
                refine V_iconst (v := -1) dX7_need_60 (by decide) ?_
                refine V_iret dX7_need_61 rfl (by decide) (by decide) ?_
                exact fin2 (by rw [dNeed, if_neg (nb (bI_0 h4)), if_pos (bI_1 h12), if_pos (bI_1 h20), if_neg h25, if_pos (bI_1 h34), if_pos (bI_1 h42), if_neg (nb (bI_0 h50))]) hw
              · skip
                refine V_iload dX7_need_53 rfl ?_
                refine V_iload dX7_need_55 rfl ?_
                refine V_icmp_le 62 dX7_need_57 (by decide) (fun h57 => ?_) (fun h57 => ?_)
                · skip
                  refine V_aload_n dX7_need_62 rfl ?_
                  refine V_get (0) fl_X7_26 dX7_need_63 hw.p0 rfl ?_
                  refine V_iload_n dX7_need_66 rfl ?_
                  refine V_iload_n dX7_need_67 rfl ?_
                  refine V_iload_n dX7_need_68 rfl ?_
                  refine V_iload dX7_need_69 rfl ?_
                  refine V_iload dX7_need_71 rfl ?_
                  refine V_callV (8) mw_X1_add mv_X7_105 dX7_need_73 (ct_X1_add hw.1 hin p v o lo hi) hw.p8 rfl rfl rfl (Nat.le_of_ble_eq_true rfl) (by decide) (by decide) (by decide) (by decide) (fun r73 ws1 hp73 => ?_)
                  obtain ⟨rfl, hw1⟩ := hp73
                  have hw1 := hw.trans hw1
                  refine V_iret dX7_need_76 rfl (by decide) (by decide) ?_
                  exact fin2 (by rw [dNeed, if_neg (nb (bI_0 h4)), if_pos (bI_1 h12), if_pos (bI_1 h20), if_neg h25, if_pos (bI_1 h34), if_pos (bI_1 h42), if_pos (bI_1 h50), if_pos h57]) hw1
                · skip
                  refine V_iconst (v := -1) dX7_need_60 (by decide) ?_
                  refine V_iret dX7_need_61 rfl (by decide) (by decide) ?_
                  exact fin2 (by rw [dNeed, if_neg (nb (bI_0 h4)), if_pos (bI_1 h12), if_pos (bI_1 h20), if_neg h25, if_pos (bI_1 h34), if_pos (bI_1 h42), if_pos (bI_1 h50), if_neg h57]) hw
        · skip
          refine V_iconst (v := -1) dX7_need_28 (by decide) ?_
          refine V_iret dX7_need_29 rfl (by decide) (by decide) ?_
          exact fin2 (by rw [dNeed, if_neg (nb (bI_0 h4)), if_pos (bI_1 h12), if_pos (bI_1 h20), if_pos h25]) hw
set_option maxHeartbeats 4000000 in
set_option maxRecDepth 20000 in
theorem ct_X7_test (hw : Wd E ad el g ws) {nT : Nat} (hT : g 16 1 = nI nT) (hT12 : nT ≤ 12) (set : Int32) : Ct E yX7_test cX7_test 2 (some (.int)) 1 0 0 [.ref (ad 0), .int set] ws (fun r w => r = some (.int (dTest g set).1) ∧ WF E ad el (dTest g set).2 ws w) := by
  refine Ct_of mw_X7_test rfl (Nat.le_of_ble_eq_true rfl) ?_
  have hw := WF.rf hw
  have hin : g 16 1 < 12 → vp_in (g 16 1) 12 := fun h => by rw [hT] at h ⊢; exact vp_in_nI (ltK (a := nT) (b := 12) (by omega) (by decide) h) (by decide)
  refine V_aload_n dX7_test_0 rfl ?_
  refine V_rdV (0) mw_X7_isCutAtHand mv_X7_72 dX7_test_1 (ct_X7_isCutAtHand hw) hw.p0 rfl rfl rfl (Nat.le_of_ble_eq_true rfl) (by decide) (by decide) (by decide) (by decide) ?_
  refine V_if_ne 19 dX7_test_4 (by decide) (fun h4 => ?_) (fun h4 => ?_)
  · skip
    refine V_iconst (v := -1) dX7_test_19 (by decide) ?_
    refine V_iret dX7_test_20 rfl (by decide) (by decide) ?_
    exact fin2 (by rw [dTest, if_pos (bI_1 h4)]) hw
  · skip
    refine V_iload_n dX7_test_7 rfl ?_
    refine V_if_eq 19 dX7_test_8 (by decide) (fun h8 => ?_) (fun h8 => ?_)
    · skip
      refine V_iconst (v := -1) dX7_test_19 (by decide) ?_
      refine V_iret dX7_test_20 rfl (by decide) (by decide) ?_
      exact fin2 (by rw [dTest, if_neg (nb (bI_0 h4)), if_pos h8]) hw
    · skip
      refine V_aload_n dX7_test_11 rfl ?_
      refine V_iload_n dX7_test_12 rfl ?_
      refine V_rdV (0) mw_X7_areParts mv_X7_109 dX7_test_13 (ct_X7_areParts hw set) hw.p0 rfl rfl rfl (Nat.le_of_ble_eq_true rfl) (by decide) (by decide) (by decide) (by decide) ?_
      refine V_if_ne 21 dX7_test_16 (by decide) (fun h16 => ?_) (fun h16 => ?_)
      · skip
        refine V_aload_n dX7_test_21 rfl ?_
        refine V_get (0) fl_X7_33 dX7_test_22 hw.p0 rfl ?_
        refine V_iload_n dX7_test_25 rfl ?_
        refine V_callV (16) mw_X5_add mv_X7_112 dX7_test_26 (ct_X5_add hw.1 hin set) hw.p16 rfl rfl rfl (Nat.le_of_ble_eq_true rfl) (by decide) (by decide) (by decide) (by decide) (fun r26 ws1 hp26 => ?_)
        obtain ⟨rfl, hw1⟩ := hp26
        have hw1 := hw.trans hw1
        refine V_iret dX7_test_29 rfl (by decide) (by decide) ?_
        exact fin2 (by rw [dTest, if_neg (nb (bI_0 h4)), if_neg h8, if_pos (bI_1 h16)]) hw1
      · skip
        refine V_iconst (v := -1) dX7_test_19 (by decide) ?_
        refine V_iret dX7_test_20 rfl (by decide) (by decide) ?_
        exact fin2 (by rw [dTest, if_neg (nb (bI_0 h4)), if_neg h8, if_neg (nb (bI_0 h16))]) hw
def dFits (g : Nat → Nat → Int32) (nN : Nat) (set : Int32) : Int32 × (Nat → Nat → Int32) := if set &&& (nI (maskN (g 3) 10) ^^^ -1) = 0 then (if brkD (wTo g nN) nN set = -1 then 1 else 0, wTo g nN) else (-1, g)
def dRed (g : Nat → Nat → Int32) (nT : Nat) (set : Int32) : Int32 := if areP g set = true then fi (pRed (g 17) set) nT 0 else -1
set_option maxHeartbeats 4000000 in
set_option maxRecDepth 20000 in
theorem ct_X7_fits (hw : Wd E ad el g ws) {nN : Nat} (hN : g 8 7 = nI nN) (hN30 : nN ≤ 30) (hok : NOK g nN) (set : Int32) : Ct E yX7_fits cX7_fits 2 (some (.int)) 5 0 0 [.ref (ad 0), .int set] ws (fun r w => r = some (.int (dFits g nN set).1) ∧ WF E ad el (dFits g nN set).2 ws w) := by
  refine Ct_of mw_X7_fits rfl (Nat.le_of_ble_eq_true rfl) ?_
  have hw := WF.rf hw
  refine V_iload_n dX7_fits_0 rfl ?_
  refine V_aload_n dX7_fits_1 rfl ?_
  refine V_get (0) fl_X7_16 dX7_fits_2 hw.p0 rfl ?_
  refine V_rdV (2) mw_X2_mask mv_X7_114 dX7_fits_5 (ct_X2_mask hw (Or.inl rfl)) hw.p2 rfl rfl rfl (Nat.le_of_ble_eq_true rfl) (by decide) (by decide) (by decide) (by decide) ?_
  refine V_iconst (v := -1) dX7_fits_8 (by decide) ?_
  refine V_ixor dX7_fits_9 ?_
  refine V_iand dX7_fits_10 ?_
  refine V_if_eq 16 dX7_fits_11 (by decide) (fun h11 => ?_) (fun h11 => ?_)
  · skip
    refine V_aload_n dX7_fits_16 rfl ?_
    refine V_iload_n dX7_fits_17 rfl ?_
    refine V_callV (0) mw_X7_firstBroken mv_X7_118 dX7_fits_18 (ct_X7_firstBroken hw.1 hN hN30 hok set) hw.p0 rfl rfl rfl (Nat.le_of_ble_eq_true rfl) (by decide) (by decide) (by decide) (by decide) (fun r18 ws1 hp18 => ?_)
    obtain ⟨rfl, hw1⟩ := hp18
    have hw1 := hw.trans hw1
    refine V_iconst (v := -1) dX7_fits_21 (by decide) ?_
    refine V_icmp_ne 29 dX7_fits_22 (by decide) (fun h22 => ?_) (fun h22 => ?_)
    · skip
      refine V_iconst (v := 0) dX7_fits_29 (by decide) ?_
      refine V_iret dX7_fits_30 rfl (by decide) (by decide) ?_
      exact fin2 (by rw [dFits, if_pos (show set &&& (nI (maskN (g 3) 10) ^^^ -1) = 0 from h11), if_neg h22]) hw1
    · skip
      refine V_iconst (v := 1) dX7_fits_25 (by decide) ?_
      refine V_goto 30 dX7_fits_26 (by decide) ?_
      refine V_iret dX7_fits_30 rfl (by decide) (by decide) ?_
      exact fin2 (by rw [dFits, if_pos (show set &&& (nI (maskN (g 3) 10) ^^^ -1) = 0 from h11), if_pos h22]) hw1
  · skip
    refine V_iconst (v := -1) dX7_fits_14 (by decide) ?_
    refine V_iret dX7_fits_15 rfl (by decide) (by decide) ?_
    exact fin2 (by rw [dFits, if_neg (show ¬ set &&& (nI (maskN (g 3) 10) ^^^ -1) = 0 from h11)]) hw
set_option maxHeartbeats 4000000 in
set_option maxRecDepth 20000 in
theorem ct_X7_red (hw : WF E ad el g w0 ws) {nT : Nat} (hT : g 16 1 = nI nT) (hT12 : nT ≤ 12) (set : Int32) : Ct E yX7_red cX7_red 2 (some (.int)) 1 0 0 [.ref (ad 0), .int set] ws (fun r w => r = some (.int (dRed g nT set)) ∧ w = ws) := by
  refine Ct_of mw_X7_red rfl (Nat.le_of_ble_eq_true rfl) ?_
  refine V_aload_n dX7_red_0 rfl ?_
  refine V_iload_n dX7_red_1 rfl ?_
  refine V_rdV (0) mw_X7_areParts mv_X7_109 dX7_red_2 (ct_X7_areParts hw set) hw.p0 rfl rfl rfl (Nat.le_of_ble_eq_true rfl) (by decide) (by decide) (by decide) (by decide) ?_
  refine V_if_eq 19 dX7_red_5 (by decide) (fun h5 => ?_) (fun h5 => ?_)
  · skip
    refine V_iconst (v := -1) dX7_red_19 (by decide) ?_
    refine V_iret dX7_red_20 rfl (by decide) (by decide) ?_
    exact fin1 (by rw [dRed, if_neg (nb (bI_0 h5))])
  · skip
    refine V_aload_n dX7_red_8 rfl ?_
    refine V_get (0) fl_X7_33 dX7_red_9 hw.p0 rfl ?_
    refine V_iload_n dX7_red_12 rfl ?_
    refine V_rdV (16) mw_X5_firstRed mv_X7_121 dX7_red_13 (ct_X5_firstRed hw set hT hT12) hw.p16 rfl rfl rfl (Nat.le_of_ble_eq_true rfl) (by decide) (by decide) (by decide) (by decide) ?_
    refine V_goto 20 dX7_red_16 (by decide) ?_
    refine V_iret dX7_red_20 rfl (by decide) (by decide) ?_
    exact fin1 (by rw [dRed, if_pos (bI_1 h5)])
def dCut (g : Nat → Nat → Int32) (nN nT : Nat) : Int32 × (Nat → Nat → Int32) := if cutB g = true then (-1, g) else if sI (grt (wTo g nN) nN nT (maskN (g 3) 10) 0) = -1 then (sI (grt (wTo g nN) nN nT (maskN (g 3) 10) 0), wTo g nN) else (sI (grt (wTo g nN) nN nT (maskN (g 3) 10) 0), chooseG (wTo g nN) nN (sI (grt (wTo g nN) nN nT (maskN (g 3) 10) 0)).toNatClampNeg)
set_option maxHeartbeats 4000000 in
set_option maxRecDepth 20000 in
theorem ct_X7_cut (hw : Wd E ad el g ws) {nN : Nat} (hN : g 8 7 = nI nN) (hN30 : nN ≤ 30) (hok : NOK g nN) {nT : Nat} (hT : g 16 1 = nI nT) (hT12 : nT ≤ 12) : Ct E yX7_cut cX7_cut 2 (some (.int)) 5 0 0 [.ref (ad 0)] ws (fun r w => r = some (.int (dCut g nN nT).1) ∧ WF E ad el (dCut g nN nT).2 ws w) := by
  refine Ct_of mw_X7_cut rfl (Nat.le_of_ble_eq_true rfl) ?_
  have hw := WF.rf hw
  refine V_aload_n dX7_cut_0 rfl ?_
  refine V_rdV (0) mw_X7_isCutAtHand mv_X7_72 dX7_cut_1 (ct_X7_isCutAtHand hw) hw.p0 rfl rfl rfl (Nat.le_of_ble_eq_true rfl) (by decide) (by decide) (by decide) (by decide) ?_
  refine V_if_eq 9 dX7_cut_4 (by decide) (fun h4 => ?_) (fun h4 => ?_)
  · skip
    refine V_aload_n dX7_cut_9 rfl ?_
    refine V_aload_n dX7_cut_10 rfl ?_
    refine V_get (0) fl_X7_16 dX7_cut_11 hw.p0 rfl ?_
    refine V_rdV (2) mw_X2_mask mv_X7_114 dX7_cut_14 (ct_X2_mask hw (Or.inl rfl)) hw.p2 rfl rfl rfl (Nat.le_of_ble_eq_true rfl) (by decide) (by decide) (by decide) (by decide) ?_
    refine V_iconst (v := 0) dX7_cut_17 (by decide) ?_
    refine V_callV (0) mw_X7_greatest mv_X7_124 dX7_cut_18 (ct_X7_greatest hw.1 hN hN30 hok hT hT12 (maskN_lt (g 3) 10) (U := 0) (by decide)) hw.p0 rfl rfl rfl (Nat.le_of_ble_eq_true rfl) (by decide) (by decide) (by decide) (by decide) (fun r18 ws1 hp18 => ?_)
    obtain ⟨rfl, hw1⟩ := hp18
    have hw1 := hw.trans hw1
    refine V_istore_n dX7_cut_21 (by decide) ?_
    refine V_iload_n dX7_cut_22 rfl ?_
    refine V_iconst (v := -1) dX7_cut_23 (by decide) ?_
    refine V_icmp_eq 32 dX7_cut_24 (by decide) (fun h24 => ?_) (fun h24 => ?_)
    · skip
      refine V_iload_n dX7_cut_32 rfl ?_
      refine V_iret dX7_cut_33 rfl (by decide) (by decide) ?_
      exact fin2 (by rw [dCut, if_neg (nb (bI_0 h4)), if_pos h24]) hw1
    · skip
      have hch : ∀ {w : va_W}, Wd E ad el (wTo g nN) w → Ct E yX7_choose cX7_choose 2 none 4 0 0 [.ref (ad 0), .int (sI (grt (wTo g nN) nN nT (maskN (g 3) 10) 0))] w (fun r w9 => r = none ∧ WF E ad el (chooseG (wTo g nN) nN (sI (grt (wTo g nN) nN nT (maskN (g 3) 10) 0)).toNatClampNeg) w w9) := by
        intro w hw
        cases hg : grt (wTo g nN) nN nT (maskN (g 3) 10) 0 with
        | none => rw [hg] at h24; exact absurd rfl h24
        | some S =>
          have hS : S < 1024 := grL_lt _ none (-1) (by have := maskN_lt (g 3) 10; omega) (fun _ h => by cases h) S hg
          show Ct E yX7_choose cX7_choose 2 none 4 0 0 [.ref (ad 0), .int (nI S)] w (fun r w9 => r = none ∧ WF E ad el (chooseG (wTo g nN) nN (nI S).toNatClampNeg) w w9)
          rw [nI_clamp (by omega)]
          exact ct_X7_choose hw hN hN30 (hok.to rfl rfl) hS
      refine V_aload_n dX7_cut_27 rfl ?_
      refine V_iload_n dX7_cut_28 rfl ?_
      refine V_callV (0) mw_X7_choose mv_X7_128 dX7_cut_29 ((show Ct E yX7_choose cX7_choose 2 none 4 0 0 [.ref (ad 0), .int (sI (grt (wTo g nN) nN nT (maskN (g 3) 10) 0))] ws1 (fun r w => r = none ∧ WF E ad el (chooseG (wTo g nN) nN (sI (grt (wTo g nN) nN nT (maskN (g 3) 10) 0)).toNatClampNeg) ws1 w) from hch hw1.1)) hw1.p0 rfl rfl rfl (Nat.le_of_ble_eq_true rfl) (by decide) (by decide) (by decide) (by decide) (fun r29 ws2 hp29 => ?_)
      obtain ⟨rfl, hw2⟩ := hp29
      have hw2 := hw1.trans hw2
      refine V_iload_n dX7_cut_32 rfl ?_
      refine V_iret dX7_cut_33 rfl (by decide) (by decide) ?_
      exact fin2 (by rw [dCut, if_neg (nb (bI_0 h4)), if_neg h24]) hw2
  · skip
    refine V_iconst (v := -1) dX7_cut_7 (by decide) ?_
    refine V_iret dX7_cut_8 rfl (by decide) (by decide) ?_
    exact fin2 (by rw [dCut, if_pos (bI_1 h4)]) hw
set_option maxHeartbeats 4000000 in
set_option maxRecDepth 20000 in
theorem ct_X7_chosen (hw : WF E ad el g w0 ws)  : Ct E yX7_chosen cX7_chosen 1 (some (.int)) 0 0 0 [.ref (ad 0)] ws (fun r w => r = some (.int (g 0 10)) ∧ w = ws) := by
  refine Ct_of mw_X7_chosen rfl (Nat.le_of_ble_eq_true rfl) ?_
  refine V_aload_n dX7_chosen_0 rfl ?_
  refine V_get (0) fl_X7_69 dX7_chosen_1 hw.p0 rfl ?_
  refine V_iret dX7_chosen_4 rfl (by decide) (by decide) ?_
  exact ⟨rfl, rfl⟩
def dWorth (g : Nat → Nat → Int32) : Int32 := if cutB g = true then sumI (g 4) (g 0 10).toNatClampNeg 10 else -1
/-- behind the cut the set chosen is a set -/
def COK (g : Nat → Nat → Int32) : Prop := cutB g = true → ∃ C : Nat, C < 1024 ∧ g 0 10 = nI C
set_option maxHeartbeats 4000000 in
set_option maxRecDepth 20000 in
theorem ct_X7_worth (hw : WF E ad el g w0 ws) (hC : COK g) : Ct E yX7_worth cX7_worth 1 (some (.int)) 1 0 0 [.ref (ad 0)] ws (fun r w => r = some (.int (dWorth g)) ∧ w = ws) := by
  refine Ct_of mw_X7_worth rfl (Nat.le_of_ble_eq_true rfl) ?_
  have hsum : cutB g = true → Ct E yX2_sum cX2_sum 4 (some (.int)) 0 0 0 [.ref (ad 2), .int (g 0 10)] ws (fun r w => r = some (.int (sumI (g 4) (g 0 10).toNatClampNeg 10)) ∧ w = ws) := by
    intro h
    obtain ⟨C, hC1, hC2⟩ := hC h
    rw [hC2, nI_clamp (by omega)]
    exact ct_X2_sum hw (Or.inl rfl) C hC1
  refine V_aload_n dX7_worth_0 rfl ?_
  refine V_rdV (0) mw_X7_isCutAtHand mv_X7_72 dX7_worth_1 (ct_X7_isCutAtHand hw) hw.p0 rfl rfl rfl (Nat.le_of_ble_eq_true rfl) (by decide) (by decide) (by decide) (by decide) ?_
  refine V_if_eq 21 dX7_worth_4 (by decide) (fun h4 => ?_) (fun h4 => ?_)
  · skip
    refine V_iconst (v := -1) dX7_worth_21 (by decide) ?_
    refine V_iret dX7_worth_22 rfl (by decide) (by decide) ?_
    exact fin1 (by rw [dWorth, if_neg (nb (bI_0 h4))])
  · skip
    refine V_aload_n dX7_worth_7 rfl ?_
    refine V_get (0) fl_X7_16 dX7_worth_8 hw.p0 rfl ?_
    refine V_aload_n dX7_worth_11 rfl ?_
    refine V_get (0) fl_X7_69 dX7_worth_12 hw.p0 rfl ?_
    refine V_rdV (2) mw_X2_sum mv_X7_131 dX7_worth_15 (hsum (bI_1 h4)) hw.p2 rfl rfl rfl (Nat.le_of_ble_eq_true rfl) (by decide) (by decide) (by decide) (by decide) ?_
    refine V_goto 22 dX7_worth_18 (by decide) ?_
    refine V_iret dX7_worth_22 rfl (by decide) (by decide) ?_
    exact fin1 (by rw [dWorth, if_pos (bI_1 h4)])
abbrev orI (g : Nat → Nat → Int32) (p : Int32) : Int32 := g 0 10 ||| ((1 : Int32) <<< (p &&& 31))
def dWhy (g : Nat → Nat → Int32) (nN nT : Nat) (p : Int32) : Int32 × (Nat → Nat → Int32) := if cutB g = true then if isPt g p = true then if at10 (g 3) p = -1 then (-1, g) else if chB g p = true then (-1, g) else if brkD (wTo g nN) nN (orI g p) = -1 then (if fi (pRed (g 17) (orI g p)) nT 0 = -1 then 0 else 200 + fi (pRed (g 17) (orI g p)) nT 0, wTo g nN) else (100 + brkD (wTo g nN) nN (orI g p), wTo g nN) else (-1, g) else (-1, g)
set_option maxHeartbeats 4000000 in
set_option maxRecDepth 20000 in
theorem ct_X7_why (hw : Wd E ad el g ws) {nN : Nat} (hN : g 8 7 = nI nN) (hN30 : nN ≤ 30) (hok : NOK g nN) {nT : Nat} (hT : g 16 1 = nI nT) (hT12 : nT ≤ 12) (p : Int32) : Ct E yX7_why cX7_why 5 (some (.int)) 5 0 0 [.ref (ad 0), .int p] ws (fun r w => r = some (.int (dWhy g nN nT p).1) ∧ WF E ad el (dWhy g nN nT p).2 ws w) := by
  refine Ct_of mw_X7_why rfl (Nat.le_of_ble_eq_true rfl) ?_
  have hw := WF.rf hw
  refine V_aload_n dX7_why_0 rfl ?_
  refine V_rdV (0) mw_X7_isCutAtHand mv_X7_72 dX7_why_1 (ct_X7_isCutAtHand hw) hw.p0 rfl rfl rfl (Nat.le_of_ble_eq_true rfl) (by decide) (by decide) (by decide) (by decide) ?_
  refine V_if_eq 34 dX7_why_4 (by decide) (fun h4 => ?_) (fun h4 => ?_)
  · skip
    refine V_iconst (v := -1) dX7_why_34 (by decide) ?_
    refine V_iret dX7_why_35 rfl (by decide) (by decide) ?_
    exact fin2 (by rw [dWhy, if_neg (nb (bI_0 h4))]) hw
  · skip
    refine V_aload_n dX7_why_7 rfl ?_
    refine V_iload_n dX7_why_8 rfl ?_
    refine V_rdV (0) mw_X7_isPart mv_X7_80 dX7_why_9 (ct_X7_isPart hw p) hw.p0 rfl rfl rfl (Nat.le_of_ble_eq_true rfl) (by decide) (by decide) (by decide) (by decide) ?_
    refine V_if_eq 34 dX7_why_12 (by decide) (fun h12 => ?_) (fun h12 => ?_)
    · skip
      refine V_iconst (v := -1) dX7_why_34 (by decide) ?_
      refine V_iret dX7_why_35 rfl (by decide) (by decide) ?_
      exact fin2 (by rw [dWhy, if_pos (bI_1 h4), if_neg (nb (bI_0 h12))]) hw
    · skip
      refine V_aload_n dX7_why_15 rfl ?_
      refine V_get (0) fl_X7_16 dX7_why_16 hw.p0 rfl ?_
      refine V_iload_n dX7_why_19 rfl ?_
      refine V_rdV (2) mw_X2_has mv_X7_98 dX7_why_20 (ct_X2_has hw (Or.inl rfl) p) hw.p2 rfl rfl rfl (Nat.le_of_ble_eq_true rfl) (by decide) (by decide) (by decide) (by decide) ?_
      refine V_if_eq 34 dX7_why_23 (by decide) (fun h23 => ?_) (fun h23 => ?_)
      · skip
        refine V_iconst (v := -1) dX7_why_34 (by decide) ?_
        refine V_iret dX7_why_35 rfl (by decide) (by decide) ?_
        have c : at10 (g 3) p = -1 := by
          by_cases c : at10 (g (2 + 1)) p = -1
          · exact c
          · rw [if_neg c] at h23; exact absurd h23 (by decide)
        exact fin2 (by rw [dWhy, if_pos (bI_1 h4), if_pos (bI_1 h12), if_pos c]) hw
      · skip
        refine V_aload_n dX7_why_26 rfl ?_
        refine V_iload_n dX7_why_27 rfl ?_
        refine V_rdV (0) mw_X7_isChosen mv_X7_134 dX7_why_28 (ct_X7_isChosen hw p) hw.p0 rfl rfl rfl (Nat.le_of_ble_eq_true rfl) (by decide) (by decide) (by decide) (by decide) ?_
        refine V_if_eq 36 dX7_why_31 (by decide) (fun h31 => ?_) (fun h31 => ?_)
        · skip
          refine V_aload_n dX7_why_36 rfl ?_
          refine V_get (0) fl_X7_69 dX7_why_37 hw.p0 rfl ?_
          refine V_iconst (v := 1) dX7_why_40 (by decide) ?_
          refine V_iload_n dX7_why_41 rfl ?_
          refine V_ishl dX7_why_42 ?_
          refine V_ior dX7_why_43 ?_
          refine V_istore_n dX7_why_44 (by decide) ?_
          refine V_aload_n dX7_why_45 rfl ?_
          refine V_iload_n dX7_why_46 rfl ?_
          refine V_callV (0) mw_X7_firstBroken mv_X7_118 dX7_why_47 (ct_X7_firstBroken hw.1 hN hN30 hok _) hw.p0 rfl rfl rfl (Nat.le_of_ble_eq_true rfl) (by decide) (by decide) (by decide) (by decide) (fun r47 ws1 hp47 => ?_)
          obtain ⟨rfl, hw1⟩ := hp47
          have hw1 := hw.trans hw1
          refine V_istore_n dX7_why_50 (by decide) ?_
          refine V_iload_n dX7_why_51 rfl ?_
          refine V_iconst (v := -1) dX7_why_52 (by decide) ?_
          refine V_icmp_eq 61 dX7_why_53 (by decide) (fun h53 => ?_) (fun h53 => ?_)
          · skip
            refine V_aload_n dX7_why_61 rfl ?_
            refine V_get (0) fl_X7_33 dX7_why_62 hw1.p0 rfl ?_
            refine V_iload_n dX7_why_65 rfl ?_
            refine V_rdV (16) mw_X5_firstRed mv_X7_121 dX7_why_66 (ct_X5_firstRed (g := wTo g nN) hw1 _ hT hT12) hw1.p16 rfl rfl rfl (Nat.le_of_ble_eq_true rfl) (by decide) (by decide) (by decide) (by decide) ?_
            refine V_istore dX7_why_69 (by decide) ?_
            refine V_iload dX7_why_71 rfl ?_
            refine V_iconst (v := -1) dX7_why_73 (by decide) ?_
            refine V_icmp_eq 86 dX7_why_74 (by decide) (fun h74 => ?_) (fun h74 => ?_)
            · skip
              refine V_iconst (v := 0) dX7_why_86 (by decide) ?_
              refine V_iret dX7_why_87 rfl (by decide) (by decide) ?_
              have c : ¬ at10 (g 3) p = -1 := fun c => h23 (if_pos c)
              have h74 : fi (pRed (g 17) (orI g p)) nT 0 = -1 := h74
              exact fin2 (by rw [dWhy, if_pos (bI_1 h4), if_pos (bI_1 h12), if_neg c, if_neg (nb (bI_0 h31)), if_pos h53, if_pos h74]) hw1
            · skip
              refine V_sipush (v := 200) dX7_why_77 (by decide) ?_
              refine V_iload dX7_why_80 rfl ?_
              refine V_iadd dX7_why_82 ?_
              refine V_goto 87 dX7_why_83 (by decide) ?_
              refine V_iret dX7_why_87 rfl (by decide) (by decide) ?_
              have c : ¬ at10 (g 3) p = -1 := fun c => h23 (if_pos c)
              have h74 : ¬ fi (pRed (g 17) (orI g p)) nT 0 = -1 := h74
              exact fin2 (by rw [dWhy, if_pos (bI_1 h4), if_pos (bI_1 h12), if_neg c, if_neg (nb (bI_0 h31)), if_pos h53, if_neg h74]; rfl) hw1
          · skip
            refine V_bipush (v := 100) dX7_why_56 (by decide) ?_
            refine V_iload_n dX7_why_58 rfl ?_
            refine V_iadd dX7_why_59 ?_
            refine V_iret dX7_why_60 rfl (by decide) (by decide) ?_
            have c : ¬ at10 (g 3) p = -1 := fun c => h23 (if_pos c)
            exact fin2 (by rw [dWhy, if_pos (bI_1 h4), if_pos (bI_1 h12), if_neg c, if_neg (nb (bI_0 h31)), if_neg h53]) hw1
        · skip
          refine V_iconst (v := -1) dX7_why_34 (by decide) ?_
          refine V_iret dX7_why_35 rfl (by decide) (by decide) ?_
          have c : ¬ at10 (g 3) p = -1 := fun c => h23 (if_pos c)
          exact fin2 (by rw [dWhy, if_pos (bI_1 h4), if_pos (bI_1 h12), if_neg c, if_pos (bI_1 h31)]) hw
def dOrder (g : Nat → Nat → Int32) (i : Int32) : Int32 := if cutB g = true then (if i < 0 then -1 else if g 18 1 ≤ i then -1 else if 10 ≤ i then -1 else g 19 i.toNatClampNeg) else -1
def dGiveUp (g : Nat → Nat → Int32) (nP : Nat) : Int32 × (Nat → Nat → Int32) := if cutB g = true then (1, endG g nP) else (0, g)
def dOneWay (g : Nat → Nat → Int32) (nW : Nat) (p v is : Int32) : Int32 × (Nat → Nat → Int32) := if isPt g p = true then if isVer v = true then if is = 0 then (if fi (pWay (g 22) (g 23) p v) nW 0 = -1 then 0 else 1, if fi (pWay (g 22) (g 23) p v) nW 0 = -1 then g else delWay g (fi (pWay (g 22) (g 23) p v) nW 0).toNatClampNeg) else (if 60 ≤ g 21 2 then 0 else if fi (pWay (g 22) (g 23) p v) nW 0 = -1 then 1 else 0, if 60 ≤ g 21 2 then g else if fi (pWay (g 22) (g 23) p v) nW 0 = -1 then addWay g p v else g) else (0, g) else (0, g)
set_option maxHeartbeats 4000000 in
set_option maxRecDepth 20000 in
theorem ct_X7_order (hw : WF E ad el g w0 ws) (i : Int32) : Ct E yX7_order cX7_order 2 (some (.int)) 1 0 0 [.ref (ad 0), .int i] ws (fun r w => r = some (.int (dOrder g i)) ∧ w = ws) := by
  refine Ct_of mw_X7_order rfl (Nat.le_of_ble_eq_true rfl) ?_
  refine V_aload_n dX7_order_0 rfl ?_
  refine V_rdV (0) mw_X7_isCutAtHand mv_X7_72 dX7_order_1 (ct_X7_isCutAtHand hw) hw.p0 rfl rfl rfl (Nat.le_of_ble_eq_true rfl) (by decide) (by decide) (by decide) (by decide) ?_
  refine V_if_eq 18 dX7_order_4 (by decide) (fun h4 => ?_) (fun h4 => ?_)
  · skip
    refine V_iconst (v := -1) dX7_order_18 (by decide) ?_
    refine V_iret dX7_order_19 rfl (by decide) (by decide) ?_
    exact fin1 (by rw [dOrder, if_neg (nb (bI_0 h4))])
  · skip
    refine V_aload_n dX7_order_7 rfl ?_
    refine V_get (0) fl_X7_40 dX7_order_8 hw.p0 rfl ?_
    refine V_iload_n dX7_order_11 rfl ?_
    refine V_rdV (18) mw_X4_partAt mv_X7_154 dX7_order_12 (ct_X4_partAt hw i) hw.p18 rfl rfl rfl (Nat.le_of_ble_eq_true rfl) (by decide) (by decide) (by decide) (by decide) ?_
    refine V_goto 19 dX7_order_15 (by decide) ?_
    refine V_iret dX7_order_19 rfl (by decide) (by decide) ?_
    exact fin1 (by rw [dOrder, if_pos (bI_1 h4)])
set_option maxHeartbeats 4000000 in
set_option maxRecDepth 20000 in
theorem ct_X7_giveUp (hw : Wd E ad el g ws) {nP : Nat} (hP : g 0 9 = nI nP) (hP10 : nP ≤ 10) : Ct E yX7_giveUp cX7_giveUp 1 (some (.boolean)) 3 0 0 [.ref (ad 0)] ws (fun r w => r = some (.int (dGiveUp g nP).1) ∧ WF E ad el (dGiveUp g nP).2 ws w) := by
  refine Ct_of mw_X7_giveUp rfl (Nat.le_of_ble_eq_true rfl) ?_
  have hw := WF.rf hw
  refine V_aload_n dX7_giveUp_0 rfl ?_
  refine V_rdV (0) mw_X7_isCutAtHand mv_X7_72 dX7_giveUp_1 (ct_X7_isCutAtHand hw) hw.p0 rfl rfl rfl (Nat.le_of_ble_eq_true rfl) (by decide) (by decide) (by decide) (by decide) ?_
  refine V_if_ne 9 dX7_giveUp_4 (by decide) (fun h4 => ?_) (fun h4 => ?_)
  · skip
    refine V_aload_n dX7_giveUp_9 rfl ?_
    refine V_callV (0) mw_X7_endCut mv_X7_177 dX7_giveUp_10 (ct_X7_endCut hw.1 hP hP10) hw.p0 rfl rfl rfl (Nat.le_of_ble_eq_true rfl) (by decide) (by decide) (by decide) (by decide) (fun r10 ws1 hp10 => ?_)
    obtain ⟨rfl, hw1⟩ := hp10
    have hw1 := hw.trans hw1
    refine V_iconst (v := 1) dX7_giveUp_13 (by decide) ?_
    refine V_zret dX7_giveUp_14 rfl (by first | exact Or.inl rfl | exact Or.inr rfl) (by decide) (by decide) ?_
    exact fin2 (by rw [dGiveUp, if_pos (bI_1 h4)]) hw1
  · skip
    refine V_iconst (v := 0) dX7_giveUp_7 (by decide) ?_
    refine V_zret dX7_giveUp_8 rfl (by first | exact Or.inl rfl | exact Or.inr rfl) (by decide) (by decide) ?_
    exact fin2 (by rw [dGiveUp, if_neg (nb (bI_0 h4))]) hw
set_option maxHeartbeats 4000000 in
set_option maxRecDepth 20000 in
theorem ct_X7_oneWay (hw : Wd E ad el g ws) {nW : Nat} (hW : g 21 2 = nI nW) (hW60 : nW ≤ 60) (p v is : Int32) : Ct E yX7_oneWay cX7_oneWay 4 (some (.boolean)) 2 0 0 [.ref (ad 0), .int p, .int v, .int is] ws (fun r w => r = some (.int (dOneWay g nW p v is).1) ∧ WF E ad el (dOneWay g nW p v is).2 ws w) := by
  refine Ct_of mw_X7_oneWay rfl (Nat.le_of_ble_eq_true rfl) ?_
  have hw := WF.rf hw
  refine V_aload_n dX7_oneWay_0 rfl ?_
  refine V_iload_n dX7_oneWay_1 rfl ?_
  refine V_rdV (0) mw_X7_isPart mv_X7_80 dX7_oneWay_2 (ct_X7_isPart hw p) hw.p0 rfl rfl rfl (Nat.le_of_ble_eq_true rfl) (by decide) (by decide) (by decide) (by decide) ?_
  refine V_if_eq 15 dX7_oneWay_5 (by decide) (fun h5 => ?_) (fun h5 => ?_)
  · skip
    refine V_iconst (v := 0) dX7_oneWay_15 (by decide) ?_
    refine V_zret dX7_oneWay_16 rfl (by first | exact Or.inl rfl | exact Or.inr rfl) (by decide) (by decide) ?_
    exact fin2 (by rw [dOneWay, if_neg (nb (bI_0 h5))]) hw
  · skip
    refine V_iload_n dX7_oneWay_8 rfl ?_
    refine V_rdS mw_X7_isVersion ms_X7_76 dX7_oneWay_9 (ct_X7_isVersion v) rfl rfl (Nat.le_of_ble_eq_true rfl) (by decide) (by decide) (by decide) (by decide) ?_
    refine V_if_ne 17 dX7_oneWay_12 (by decide) (fun h12 => ?_) (fun h12 => ?_)
    · skip
      refine V_iload_n dX7_oneWay_17 rfl ?_
      refine V_if_eq 33 dX7_oneWay_18 (by decide) (fun h18 => ?_) (fun h18 => ?_)
      · skip
        refine V_aload_n dX7_oneWay_33 rfl ?_
        refine V_get (0) fl_X7_54 dX7_oneWay_34 hw.p0 rfl ?_
        refine V_iload_n dX7_oneWay_37 rfl ?_
        refine V_iload_n dX7_oneWay_38 rfl ?_
        refine V_callV (21) mw_X3_remove mv_X7_183 dX7_oneWay_39 (ct_X3_remove hw.1 p v hW hW60) hw.p21 rfl rfl rfl (Nat.le_of_ble_eq_true rfl) (by decide) (by decide) (by decide) (by decide) (fun r39 ws1 hp39 => ?_)
        obtain ⟨rfl, hw1⟩ := hp39
        have hw1 := hw.trans hw1
        refine V_zret dX7_oneWay_42 rfl (by split <;> first | exact Or.inl rfl | exact Or.inr rfl) (by decide) (by decide) ?_
        exact fin2 (by rw [dOneWay, if_pos (bI_1 h5), if_pos (bI_1 h12), if_pos h18]) hw1
      · skip
        refine V_aload_n dX7_oneWay_21 rfl ?_
        refine V_get (0) fl_X7_54 dX7_oneWay_22 hw.p0 rfl ?_
        refine V_iload_n dX7_oneWay_25 rfl ?_
        refine V_iload_n dX7_oneWay_26 rfl ?_
        refine V_callV (21) mw_X3_add mv_X7_180 dX7_oneWay_27 (ct_X3_add hw.1 p v hW hW60) hw.p21 rfl rfl rfl (Nat.le_of_ble_eq_true rfl) (by decide) (by decide) (by decide) (by decide) (fun r27 ws1 hp27 => ?_)
        obtain ⟨rfl, hw1⟩ := hp27
        have hw1 := hw.trans hw1
        refine V_goto 42 dX7_oneWay_30 (by decide) ?_
        refine V_zret dX7_oneWay_42 rfl (by split <;> first | exact Or.inl rfl | (split <;> first | exact Or.inl rfl | exact Or.inr rfl)) (by decide) (by decide) ?_
        exact fin2 (by rw [dOneWay, if_pos (bI_1 h5), if_pos (bI_1 h12), if_neg h18]) hw1
    · skip
      refine V_iconst (v := 0) dX7_oneWay_15 (by decide) ?_
      refine V_zret dX7_oneWay_16 rfl (by first | exact Or.inl rfl | exact Or.inr rfl) (by decide) (by decide) ?_
      exact fin2 (by rw [dOneWay, if_pos (bI_1 h5), if_neg (nb (bI_0 h12))]) hw
def dBlame (g : Nat → Nat → Int32) (nT : Nat) (set : Int32) : Int32 × (Nat → Nat → Int32) := if areP g set = true then (nI (hunt g nT set.toNatClampNeg).1, setH g (hunt g nT set.toNatClampNeg).1 (hunt g nT set.toNatClampNeg).2) else (-1, g)
def dRuns (g : Nat → Nat → Int32) (nT : Nat) (set : Int32) : Int32 × (Nat → Nat → Int32) := if areP g set = true then (nI (hunt g nT set.toNatClampNeg).2, setH g (hunt g nT set.toNatClampNeg).1 (hunt g nT set.toNatClampNeg).2) else (-1, g)
theorem areP_set {g : Nat → Nat → Int32} {set : Int32} {nP : Nat} (hP : g 0 9 = nI nP) (hP10 : nP ≤ 10) (h : areP g set = true) : ∃ S, S < 2 ^ nP ∧ set = nI S := by
  rw [areP, decide_eq_true_eq, hP, shl1 nP (by omega)] at h
  have h2 : 2 ^ nP = (2 ^ nP - 1) + 1 := by have := Nat.pow_pos (n := nP) (show 0 < 2 by decide); omega
  rw [h2, nI_pred] at h
  refine ⟨set.toBitVec.toNat % 2 ^ nP, Nat.mod_lt _ (Nat.pow_pos (by decide)), ?_⟩
  have h3 : 2 ^ nP - 1 < 2 ^ 32 := by have : 2 ^ nP ≤ 2 ^ 10 := Nat.pow_le_pow_right (by decide) hP10; omega
  rw [← pk_and set (m := nI (2 ^ nP - 1)) nP (by rw [pk_tn h3])]
  apply Int32.toBitVec_inj.1
  have h4 : (set &&& (nI (2 ^ nP - 1) ^^^ -1)).toBitVec = 0#32 := by rw [h]; rfl
  rw [Int32.toBitVec_and, Int32.toBitVec_xor] at h4
  rw [Int32.toBitVec_and]
  apply BitVec.eq_of_getLsbD_eq
  intro i hi
  have h5 := congrArg (fun b => b.getLsbD i) h4
  simp only [BitVec.getLsbD_and, BitVec.getLsbD_xor, show (-1 : Int32).toBitVec = BitVec.allOnes 32 from rfl, BitVec.getLsbD_allOnes, hi, decide_true, BitVec.getLsbD_zero] at h5
  rw [BitVec.getLsbD_and]
  cases h6 : set.toBitVec.getLsbD i
  · rfl
  · rw [h6] at h5
    cases h7 : (nI (2 ^ nP - 1)).toBitVec.getLsbD i
    · rw [h7] at h5; exact absurd h5 (by decide)
    · rfl
set_option maxHeartbeats 4000000 in
set_option maxRecDepth 20000 in
theorem ct_X7_blame (hw : Wd E ad el g ws) (hE : NST E) {nP : Nat} (hP : g 0 9 = nI nP) (hP10 : nP ≤ 10) {nT : Nat} (hT : g 16 1 = nI nT) (hT12 : nT ≤ 12) {x0 : Nat} (hx0 : nI x0 = g 20 0) (set : Int32) : Ct E yX7_blame cX7_blame 2 (some (.int)) 5 0 0 [.ref (ad 0), .int set] ws (fun r w => r = some (.int (dBlame g nT set).1) ∧ WF E ad el (dBlame g nT set).2 ws w) := by
  refine Ct_of mw_X7_blame rfl (Nat.le_of_ble_eq_true rfl) ?_
  have hw := WF.rf hw
  have hfo : areP g set = true → ∀ {w : va_W}, Wd E ad el g w → Ct E yX0_follow cX0_follow 8 none 4 0 0 [.ref (ad 20), .ref (ad 16), .int set] w (fun r w9 => r = none ∧ WF E ad el (setH g (hunt g nT set.toNatClampNeg).1 (hunt g nT set.toNatClampNeg).2) w w9) := by
    intro h w hw
    obtain ⟨S, hS, rfl⟩ := areP_set hP hP10 h
    have hS2 : S < 1024 := Nat.lt_of_lt_of_le hS (Nat.pow_le_pow_right (by decide) hP10)
    rw [nI_clamp (by omega)]
    exact ct_X0_follow hw hT hT12 hS2 hx0
  refine V_aload_n dX7_blame_0 rfl ?_
  refine V_iload_n dX7_blame_1 rfl ?_
  refine V_rdV (0) mw_X7_areParts mv_X7_109 dX7_blame_2 (ct_X7_areParts hw set) hw.p0 rfl rfl rfl (Nat.le_of_ble_eq_true rfl) (by decide) (by decide) (by decide) (by decide) ?_
  refine V_if_ne 10 dX7_blame_5 (by decide) (fun h5 => ?_) (fun h5 => ?_)
  · skip
    refine V_aload_n dX7_blame_10 rfl ?_
    refine V_get (0) fl_X7_47 dX7_blame_11 hw.p0 rfl ?_
    refine V_aload_n dX7_blame_14 rfl ?_
    refine V_get (0) fl_X7_33 dX7_blame_15 hw.p0 rfl ?_
    refine V_iload_n dX7_blame_18 rfl ?_
    refine V_callV (20) mw_X0_follow mv_X7_216 dX7_blame_19 (hfo (bI_1 h5) hw.1) hw.p20 rfl rfl rfl (Nat.le_of_ble_eq_true rfl) (by decide) (by decide) (by decide) (by decide) (fun r19 ws1 hp19 => ?_)
    obtain ⟨rfl, hw1⟩ := hp19
    have hw1 := hw.trans hw1
    refine V_aload_n dX7_blame_22 rfl ?_
    refine V_get (0) fl_X7_47 dX7_blame_23 hw1.p0 rfl ?_
    refine V_getN (20) hE fn_X7_220 dX7_blame_26 hw1.p20 rfl ?_
    refine V_iret dX7_blame_29 rfl (by decide) (by decide) ?_
    exact fin2 (by rw [dBlame, if_pos (bI_1 h5)]; rfl) hw1
  · skip
    refine V_iconst (v := -1) dX7_blame_8 (by decide) ?_
    refine V_iret dX7_blame_9 rfl (by decide) (by decide) ?_
    exact fin2 (by rw [dBlame, if_neg (nb (bI_0 h5))]) hw
set_option maxHeartbeats 4000000 in
set_option maxRecDepth 20000 in
theorem ct_X7_runs (hw : Wd E ad el g ws) (hE : NST E) {nP : Nat} (hP : g 0 9 = nI nP) (hP10 : nP ≤ 10) {nT : Nat} (hT : g 16 1 = nI nT) (hT12 : nT ≤ 12) {x0 : Nat} (hx0 : nI x0 = g 20 0) (set : Int32) : Ct E yX7_runs cX7_runs 2 (some (.int)) 5 0 0 [.ref (ad 0), .int set] ws (fun r w => r = some (.int (dRuns g nT set).1) ∧ WF E ad el (dRuns g nT set).2 ws w) := by
  refine Ct_of mw_X7_runs rfl (Nat.le_of_ble_eq_true rfl) ?_
  have hw := WF.rf hw
  have hfo : areP g set = true → ∀ {w : va_W}, Wd E ad el g w → Ct E yX0_follow cX0_follow 8 none 4 0 0 [.ref (ad 20), .ref (ad 16), .int set] w (fun r w9 => r = none ∧ WF E ad el (setH g (hunt g nT set.toNatClampNeg).1 (hunt g nT set.toNatClampNeg).2) w w9) := by
    intro h w hw
    obtain ⟨S, hS, rfl⟩ := areP_set hP hP10 h
    have hS2 : S < 1024 := Nat.lt_of_lt_of_le hS (Nat.pow_le_pow_right (by decide) hP10)
    rw [nI_clamp (by omega)]
    exact ct_X0_follow hw hT hT12 hS2 hx0
  refine V_aload_n dX7_runs_0 rfl ?_
  refine V_iload_n dX7_runs_1 rfl ?_
  refine V_rdV (0) mw_X7_areParts mv_X7_109 dX7_runs_2 (ct_X7_areParts hw set) hw.p0 rfl rfl rfl (Nat.le_of_ble_eq_true rfl) (by decide) (by decide) (by decide) (by decide) ?_
  refine V_if_ne 10 dX7_runs_5 (by decide) (fun h5 => ?_) (fun h5 => ?_)
  · skip
    refine V_aload_n dX7_runs_10 rfl ?_
    refine V_get (0) fl_X7_47 dX7_runs_11 hw.p0 rfl ?_
    refine V_aload_n dX7_runs_14 rfl ?_
    refine V_get (0) fl_X7_33 dX7_runs_15 hw.p0 rfl ?_
    refine V_iload_n dX7_runs_18 rfl ?_
    refine V_callV (20) mw_X0_follow mv_X7_216 dX7_runs_19 (hfo (bI_1 h5) hw.1) hw.p20 rfl rfl rfl (Nat.le_of_ble_eq_true rfl) (by decide) (by decide) (by decide) (by decide) (fun r19 ws1 hp19 => ?_)
    obtain ⟨rfl, hw1⟩ := hp19
    have hw1 := hw.trans hw1
    refine V_aload_n dX7_runs_22 rfl ?_
    refine V_get (0) fl_X7_47 dX7_runs_23 hw1.p0 rfl ?_
    refine V_getN (20) hE fn_X7_223 dX7_runs_26 hw1.p20 rfl ?_
    refine V_iret dX7_runs_29 rfl (by decide) (by decide) ?_
    exact fin2 (by rw [dRuns, if_pos (bI_1 h5)]; rfl) hw1
  · skip
    refine V_iconst (v := -1) dX7_runs_8 (by decide) ?_
    refine V_iret dX7_runs_9 rfl (by decide) (by decide) ?_
    exact fin2 (by rw [dRuns, if_neg (nb (bI_0 h5))]) hw
def dTold (g : Nat → Nat → Int32) (p wh : Int32) : Int32 := if isPt g p = true then if wh = 0 then g 1 p.toNatClampNeg else if wh = 1 then at10 (g 3) p else if wh = 2 then at10 (g 4) p else if wh = 3 then at10 (g 6) p else if wh = 4 then at10 (g 7) p else -1 else -1
set_option maxHeartbeats 4000000 in
set_option maxRecDepth 20000 in
theorem ct_X7_told (hw : WF E ad el g w0 ws) {nP : Nat} (hP : g 0 9 = nI nP) (hP10 : nP ≤ 10) (p wh : Int32) : Ct E yX7_told cX7_told 3 (some (.int)) 1 0 0 [.ref (ad 0), .int p, .int wh] ws (fun r w => r = some (.int (dTold g p wh)) ∧ w = ws) := by
  refine Ct_of mw_X7_told rfl (Nat.le_of_ble_eq_true rfl) ?_
  refine V_aload_n dX7_told_0 rfl ?_
  refine V_iload_n dX7_told_1 rfl ?_
  refine V_rdV (0) mw_X7_isPart mv_X7_80 dX7_told_2 (ct_X7_isPart hw p) hw.p0 rfl rfl rfl (Nat.le_of_ble_eq_true rfl) (by decide) (by decide) (by decide) (by decide) ?_
  refine V_if_ne 10 dX7_told_5 (by decide) (fun h5 => ?_) (fun h5 => ?_)
  · skip
    refine V_iload_n dX7_told_10 rfl ?_
    rcases pk_ix wh (n := 5) (by decide) with q | q | ⟨j, hj, rfl⟩
    · refine V_tableOut 87 dX7_told_11 (Or.inl (by rw [Int32.lt_iff_toInt_lt] at q; exact q)) (by decide) ?_
      refine V_iconst (v := -1) dX7_told_87 (by decide) ?_
      refine V_iret dX7_told_88 rfl (by decide) (by decide) ?_
      have n0 : ∀ j, j < 5 → ¬ wh = nI j := fun j hj e => by rw [e] at q; exact absurd q (nI_pos (by omega))
      exact fin1 (by rw [dTold, if_pos (bI_1 h5), if_neg (show ¬ wh = 0 from n0 0 (by decide)), if_neg (show ¬ wh = 1 from n0 1 (by decide)), if_neg (show ¬ wh = 2 from n0 2 (by decide)), if_neg (show ¬ wh = 3 from n0 3 (by decide)), if_neg (show ¬ wh = 4 from n0 4 (by decide))])
    · refine V_tableOut 87 dX7_told_11 (Or.inr (by rw [Int32.le_iff_toInt_le, nI_toInt (by decide)] at q; omega)) (by decide) ?_
      refine V_iconst (v := -1) dX7_told_87 (by decide) ?_
      refine V_iret dX7_told_88 rfl (by decide) (by decide) ?_
      have n0 : ∀ j, j < 5 → ¬ wh = nI j := fun j hj e => by rw [e] at q; exact absurd (leK (by decide) (by omega) q) (by omega)
      exact fin1 (by rw [dTold, if_pos (bI_1 h5), if_neg (show ¬ wh = 0 from n0 0 (by decide)), if_neg (show ¬ wh = 1 from n0 1 (by decide)), if_neg (show ¬ wh = 2 from n0 2 (by decide)), if_neg (show ¬ wh = 3 from n0 3 (by decide)), if_neg (show ¬ wh = 4 from n0 4 (by decide))])
    · rcases (show j = 0 ∨ j = 1 ∨ j = 2 ∨ j = 3 ∨ j = 4 by omega) with rfl | rfl | rfl | rfl | rfl
      · refine V_tableIn 44 dX7_told_11 (by decide) (by decide) rfl (by decide) ?_
        refine V_aload_n dX7_told_44 rfl ?_
        refine V_get (0) fl_X7_9 dX7_told_45 hw.p0 rfl ?_
        refine V_iload_n dX7_told_48 rfl ?_
        refine V_iald (1) dX7_told_49 hw.p1 (by obtain ⟨j, hj, rfl⟩ := isPt_in hP hP10 (bI_1 h5); exact vp_in_nI (by omega) (by decide)) ?_
        refine V_iret dX7_told_50 rfl (by decide) (by decide) ?_
        exact fin1 (by rw [dTold, if_pos (bI_1 h5), if_pos (show nI 0 = 0 by decide)])
      · refine V_tableIn 51 dX7_told_11 (by decide) (by decide) rfl (by decide) ?_
        refine V_aload_n dX7_told_51 rfl ?_
        refine V_get (0) fl_X7_16 dX7_told_52 hw.p0 rfl ?_
        refine V_iload_n dX7_told_55 rfl ?_
        refine V_rdV (2) mw_X2_versionOf mv_X7_141 dX7_told_56 (ct_X2_versionOf hw (Or.inl rfl) p) hw.p2 rfl rfl rfl (Nat.le_of_ble_eq_true rfl) (by decide) (by decide) (by decide) (by decide) ?_
        refine V_iret dX7_told_59 rfl (by decide) (by decide) ?_
        exact fin1 (by rw [dTold, if_pos (bI_1 h5), if_neg (show ¬ nI 1 = 0 by decide), if_pos (show nI 1 = 1 by decide)])
      · refine V_tableIn 60 dX7_told_11 (by decide) (by decide) rfl (by decide) ?_
        refine V_aload_n dX7_told_60 rfl ?_
        refine V_get (0) fl_X7_16 dX7_told_61 hw.p0 rfl ?_
        refine V_iload_n dX7_told_64 rfl ?_
        refine V_rdV (2) mw_X2_worthOf mv_X7_144 dX7_told_65 (ct_X2_worthOf hw (Or.inl rfl) p) hw.p2 rfl rfl rfl (Nat.le_of_ble_eq_true rfl) (by decide) (by decide) (by decide) (by decide) ?_
        refine V_iret dX7_told_68 rfl (by decide) (by decide) ?_
        exact fin1 (by rw [dTold, if_pos (bI_1 h5), if_neg (show ¬ nI 2 = 0 by decide), if_neg (show ¬ nI 2 = 1 by decide), if_pos (show nI 2 = 2 by decide)])
      · refine V_tableIn 69 dX7_told_11 (by decide) (by decide) rfl (by decide) ?_
        refine V_aload_n dX7_told_69 rfl ?_
        refine V_get (0) fl_X7_20 dX7_told_70 hw.p0 rfl ?_
        refine V_iload_n dX7_told_73 rfl ?_
        refine V_rdV (5) mw_X2_versionOf mv_X7_141 dX7_told_74 (ct_X2_versionOf hw (Or.inr rfl) p) hw.p5 rfl rfl rfl (Nat.le_of_ble_eq_true rfl) (by decide) (by decide) (by decide) (by decide) ?_
        refine V_iret dX7_told_77 rfl (by decide) (by decide) ?_
        exact fin1 (by rw [dTold, if_pos (bI_1 h5), if_neg (show ¬ nI 3 = 0 by decide), if_neg (show ¬ nI 3 = 1 by decide), if_neg (show ¬ nI 3 = 2 by decide), if_pos (show nI 3 = 3 by decide)])
      · refine V_tableIn 78 dX7_told_11 (by decide) (by decide) rfl (by decide) ?_
        refine V_aload_n dX7_told_78 rfl ?_
        refine V_get (0) fl_X7_20 dX7_told_79 hw.p0 rfl ?_
        refine V_iload_n dX7_told_82 rfl ?_
        refine V_rdV (5) mw_X2_worthOf mv_X7_144 dX7_told_83 (ct_X2_worthOf hw (Or.inr rfl) p) hw.p5 rfl rfl rfl (Nat.le_of_ble_eq_true rfl) (by decide) (by decide) (by decide) (by decide) ?_
        refine V_iret dX7_told_86 rfl (by decide) (by decide) ?_
        exact fin1 (by rw [dTold, if_pos (bI_1 h5), if_neg (show ¬ nI 4 = 0 by decide), if_neg (show ¬ nI 4 = 1 by decide), if_neg (show ¬ nI 4 = 2 by decide), if_neg (show ¬ nI 4 = 3 by decide), if_pos (show nI 4 = 4 by decide)])
  · skip
    refine V_iconst (v := -1) dX7_told_8 (by decide) ?_
    refine V_iret dX7_told_9 rfl (by decide) (by decide) ?_
    exact fin1 (by rw [dTold, if_neg (nb (bI_0 h5))])
end DK2
end
section
/-! ===== TrainDesk: fix, leave ===== -/
def dFix (g : Nat → Nat → Int32) (nN nT : Nat) (p v u : Int32) : Int32 × (Nat → Nat → Int32) := if mayB g p v u = true then (if goesB (wTo (put10 g 2 p v u) nN) nN nT (orI g p) = true then (1, chooseG (wTo (put10 g 2 p v u) nN) nN (orI g p).toNatClampNeg) else (0, put10 (wTo (put10 g 2 p v u) nN) 2 p (at10 (g 3) p) (at10 (g 4) p))) else (-1, g)
def lvS (g : Nat → Nat → Int32) (nN nT : Nat) (p v u : Int32) : Option Nat := grt (wTo (put10 g 2 p v u) nN) nN nT (orI g p).toNatClampNeg ((1 : Int32) <<< (p &&& 31)).toNatClampNeg
def dLeave (g : Nat → Nat → Int32) (nN nT : Nat) (p v u : Int32) : Int32 × (Nat → Nat → Int32) := if mayB g p v u = true then (if sI (lvS g nN nT p v u) = -1 then -1 else g 0 10 &&& (sI (lvS g nN nT p v u) ^^^ -1), put10 (wTo (put10 g 2 p v u) nN) 2 p (at10 (g 3) p) (at10 (g 4) p)) else (-1, g)
theorem mayB_pt {g : Nat → Nat → Int32} {p v u : Int32} (h : mayB g p v u = true) : cutB g = true ∧ isPt g p = true := by
  simp only [mayB, Bool.and_eq_true] at h
  exact ⟨h.1, h.2.1⟩
theorem orI_set {g : Nat → Nat → Int32} {p v u : Int32} {nP : Nat} (hP : g 0 9 = nI nP) (hP10 : nP ≤ 10) (hC : COK g) (h : mayB g p v u = true) : ∃ j C, j < nP ∧ C < 1024 ∧ p = nI j ∧ g 0 10 = nI C ∧ orI g p = nI (C ||| 2 ^ j) ∧ (1 : Int32) <<< (p &&& 31) = nI (2 ^ j) := by
  obtain ⟨h1, h2⟩ := mayB_pt h
  obtain ⟨j, hj, rfl⟩ := isPt_in hP hP10 h2
  obtain ⟨C, hC1, hC2⟩ := hC h1
  exact ⟨j, C, hj, hC1, rfl, hC2, by rw [orI, hC2, shl1 j (by omega), nx_or], shl1 j (by omega)⟩
section DK3
variable {E : VE} {ad : Nat → Nat} {el : Nat} {g : Nat → Nat → Int32} {w0 ws : va_W}
set_option maxHeartbeats 4000000 in
set_option maxRecDepth 20000 in
theorem ct_X7_fix (hw : Wd E ad el g ws) {nN : Nat} (hN : g 8 7 = nI nN) (hN30 : nN ≤ 30) (hok : NOK g nN) {nT : Nat} (hT : g 16 1 = nI nT) (hT12 : nT ≤ 12) {nP : Nat} (hP : g 0 9 = nI nP) (hP10 : nP ≤ 10) (hC : COK g) (p v u : Int32) : Ct E yX7_fix cX7_fix 7 (some (.int)) 5 0 0 [.ref (ad 0), .int p, .int v, .int u] ws (fun r w => r = some (.int (dFix g nN nT p v u).1) ∧ WF E ad el (dFix g nN nT p v u).2 ws w) := by
  refine Ct_of mw_X7_fix rfl (Nat.le_of_ble_eq_true rfl) ?_
  have hw := WF.rf hw
  have e0 : ∀ k, k ≠ 3 → k ≠ 4 → put10 g 2 p v u k = g k := fun k h1 h2 => put10_low g 2 p v u k h1 h2
  have hN1 : put10 g 2 p v u 8 7 = nI nN := by rw [e0 8 (by decide) (by decide)]; exact hN
  have hT1 : put10 g 2 p v u 16 1 = nI nT := by rw [e0 16 (by decide) (by decide)]; exact hT
  have hok1 : NOK (put10 g 2 p v u) nN := hok.to (e0 9 (by decide) (by decide)) (e0 11 (by decide) (by decide))
  have hch : wTo (put10 g 2 p v u) nN 0 10 = g 0 10 := by rw [show wTo (put10 g 2 p v u) nN 0 = put10 g 2 p v u 0 from rfl, e0 0 (by decide) (by decide)]
  have hch1 : put10 g 2 p v u 0 10 = g 0 10 := by rw [e0 0 (by decide) (by decide)]
  have hcho : mayB g p v u = true → ∀ {w : va_W}, Wd E ad el (wTo (put10 g 2 p v u) nN) w → Ct E yX7_choose cX7_choose 2 none 4 0 0 [.ref (ad 0), .int (orI g p)] w (fun r w9 => r = none ∧ WF E ad el (chooseG (wTo (put10 g 2 p v u) nN) nN (orI g p).toNatClampNeg) w w9) := by
    intro h w hw
    obtain ⟨j, C, hj, hC1, -, -, e2, -⟩ := orI_set hP hP10 hC h
    have hS := or_lt hC1 (show j < 10 by omega)
    rw [e2, nI_clamp (by omega)]
    exact ct_X7_choose hw hN1 hN30 (hok1.to rfl rfl) hS
  refine V_aload_n dX7_fix_0 rfl ?_
  refine V_iload_n dX7_fix_1 rfl ?_
  refine V_iload_n dX7_fix_2 rfl ?_
  refine V_iload_n dX7_fix_3 rfl ?_
  refine V_rdV (0) mw_X7_mayFix mv_X7_137 dX7_fix_4 (ct_X7_mayFix hw hP hP10 p v u) hw.p0 rfl rfl rfl (Nat.le_of_ble_eq_true rfl) (by decide) (by decide) (by decide) (by decide) ?_
  refine V_if_ne 12 dX7_fix_7 (by decide) (fun h7 => ?_) (fun h7 => ?_)
  · skip
    refine V_aload_n dX7_fix_12 rfl ?_
    refine V_get (0) fl_X7_16 dX7_fix_13 hw.p0 rfl ?_
    refine V_iload_n dX7_fix_16 rfl ?_
    refine V_rdV (2) mw_X2_versionOf mv_X7_141 dX7_fix_17 (ct_X2_versionOf hw (Or.inl rfl) p) hw.p2 rfl rfl rfl (Nat.le_of_ble_eq_true rfl) (by decide) (by decide) (by decide) (by decide) ?_
    refine V_istore dX7_fix_20 (by decide) ?_
    refine V_aload_n dX7_fix_22 rfl ?_
    refine V_get (0) fl_X7_16 dX7_fix_23 hw.p0 rfl ?_
    refine V_iload_n dX7_fix_26 rfl ?_
    refine V_rdV (2) mw_X2_worthOf mv_X7_144 dX7_fix_27 (ct_X2_worthOf hw (Or.inl rfl) p) hw.p2 rfl rfl rfl (Nat.le_of_ble_eq_true rfl) (by decide) (by decide) (by decide) (by decide) ?_
    refine V_istore dX7_fix_30 (by decide) ?_
    refine V_aload_n dX7_fix_32 rfl ?_
    refine V_get (0) fl_X7_16 dX7_fix_33 hw.p0 rfl ?_
    refine V_iload_n dX7_fix_36 rfl ?_
    refine V_iload_n dX7_fix_37 rfl ?_
    refine V_iload_n dX7_fix_38 rfl ?_
    refine V_callV (2) mw_X2_put mv_X7_94 dX7_fix_39 (ct_X2_put hw.1 (Or.inl rfl) p v u) hw.p2 rfl rfl rfl (Nat.le_of_ble_eq_true rfl) (by decide) (by decide) (by decide) (by decide) (fun r39 ws1 hp39 => ?_)
    obtain ⟨rfl, hw1⟩ := hp39
    have hw1 := hw.trans hw1
    refine V_aload_n dX7_fix_42 rfl ?_
    refine V_get (0) fl_X7_26 dX7_fix_43 hw1.p0 rfl ?_
    refine V_aload_n dX7_fix_46 rfl ?_
    refine V_get (0) fl_X7_9 dX7_fix_47 hw1.p0 rfl ?_
    refine V_aload_n dX7_fix_50 rfl ?_
    refine V_get (0) fl_X7_16 dX7_fix_51 hw1.p0 rfl ?_
    refine V_callV (8) mw_X1_weigh mv_X7_147 dX7_fix_54 (ct_X1_weigh hw1.1 hN1 hN30 hok1) hw1.p8 rfl rfl rfl (Nat.le_of_ble_eq_true rfl) (by decide) (by decide) (by decide) (by decide) (fun r54 ws2 hp54 => ?_)
    obtain ⟨rfl, hw2⟩ := hp54
    have hw2 := hw1.trans hw2
    refine V_aload_n dX7_fix_57 rfl ?_
    refine V_get (0) fl_X7_69 dX7_fix_58 hw2.p0 rfl ?_
    rw [hch]
    refine V_iconst (v := 1) dX7_fix_61 (by decide) ?_
    refine V_iload_n dX7_fix_62 rfl ?_
    refine V_ishl dX7_fix_63 ?_
    refine V_ior dX7_fix_64 ?_
    refine V_istore dX7_fix_65 (by decide) ?_
    refine V_aload_n dX7_fix_67 rfl ?_
    refine V_iload dX7_fix_68 rfl ?_
    refine V_rdV (0) mw_X7_goes mv_X7_151 dX7_fix_70 (ct_X7_goes (g := wTo (put10 g 2 p v u) nN) hw2 hN1 hN30 hT1 hT12 (orI g p)) hw2.p0 rfl rfl rfl (Nat.le_of_ble_eq_true rfl) (by decide) (by decide) (by decide) (by decide) ?_
    refine V_if_eq 84 dX7_fix_73 (by decide) (fun h73 => ?_) (fun h73 => ?_)
    · skip
      refine V_aload_n dX7_fix_84 rfl ?_
      refine V_get (0) fl_X7_16 dX7_fix_85 hw2.p0 rfl ?_
      refine V_iload_n dX7_fix_88 rfl ?_
      refine V_iload dX7_fix_89 rfl ?_
      refine V_iload dX7_fix_91 rfl ?_
      refine V_callV (2) mw_X2_put mv_X7_94 dX7_fix_93 (ct_X2_put hw2.1 (Or.inl rfl) p _ _) hw2.p2 rfl rfl rfl (Nat.le_of_ble_eq_true rfl) (by decide) (by decide) (by decide) (by decide) (fun r93 ws3 hp93 => ?_)
      obtain ⟨rfl, hw3⟩ := hp93
      have hw3 := hw2.trans hw3
      refine V_iconst (v := 0) dX7_fix_96 (by decide) ?_
      refine V_iret dX7_fix_97 rfl (by decide) (by decide) ?_
      exact fin2 (by rw [dFix, if_pos (bI_1 h7), if_neg (nb (bI_0 h73))]) hw3
    · skip
      refine V_aload_n dX7_fix_76 rfl ?_
      refine V_iload dX7_fix_77 rfl ?_
      refine V_callV (0) mw_X7_choose mv_X7_128 dX7_fix_79 (hcho (bI_1 h7) hw2.1) hw2.p0 rfl rfl rfl (Nat.le_of_ble_eq_true rfl) (by decide) (by decide) (by decide) (by decide) (fun r79 ws3 hp79 => ?_)
      obtain ⟨rfl, hw3⟩ := hp79
      have hw3 := hw2.trans hw3
      refine V_iconst (v := 1) dX7_fix_82 (by decide) ?_
      refine V_iret dX7_fix_83 rfl (by decide) (by decide) ?_
      exact fin2 (by rw [dFix, if_pos (bI_1 h7), if_pos (bI_1 h73)]) hw3
  · skip
    refine V_iconst (v := -1) dX7_fix_10 (by decide) ?_
    refine V_iret dX7_fix_11 rfl (by decide) (by decide) ?_
    exact fin2 (by rw [dFix, if_neg (nb (bI_0 h7))]) hw
set_option maxHeartbeats 4000000 in
set_option maxRecDepth 20000 in
theorem ct_X7_leave (hw : Wd E ad el g ws) {nN : Nat} (hN : g 8 7 = nI nN) (hN30 : nN ≤ 30) (hok : NOK g nN) {nT : Nat} (hT : g 16 1 = nI nT) (hT12 : nT ≤ 12) {nP : Nat} (hP : g 0 9 = nI nP) (hP10 : nP ≤ 10) (hC : COK g) (p v u : Int32) : Ct E yX7_leave cX7_leave 7 (some (.int)) 5 0 0 [.ref (ad 0), .int p, .int v, .int u] ws (fun r w => r = some (.int (dLeave g nN nT p v u).1) ∧ WF E ad el (dLeave g nN nT p v u).2 ws w) := by
  refine Ct_of mw_X7_leave rfl (Nat.le_of_ble_eq_true rfl) ?_
  have hw := WF.rf hw
  have e0 : ∀ k, k ≠ 3 → k ≠ 4 → put10 g 2 p v u k = g k := fun k h1 h2 => put10_low g 2 p v u k h1 h2
  have hN1 : put10 g 2 p v u 8 7 = nI nN := by rw [e0 8 (by decide) (by decide)]; exact hN
  have hT1 : put10 g 2 p v u 16 1 = nI nT := by rw [e0 16 (by decide) (by decide)]; exact hT
  have hok1 : NOK (put10 g 2 p v u) nN := hok.to (e0 9 (by decide) (by decide)) (e0 11 (by decide) (by decide))
  have hch : wTo (put10 g 2 p v u) nN 0 10 = g 0 10 := by rw [show wTo (put10 g 2 p v u) nN 0 = put10 g 2 p v u 0 from rfl, e0 0 (by decide) (by decide)]
  have hch1 : put10 g 2 p v u 0 10 = g 0 10 := by rw [e0 0 (by decide) (by decide)]
  have hgr : mayB g p v u = true → ∀ {w : va_W}, Wd E ad el (put10 g 2 p v u) w → Ct E yX7_greatest cX7_greatest 8 (some (.int)) 4 0 0 [.ref (ad 0), .int (orI g p), .int ((1 : Int32) <<< (p &&& 31))] w (fun r w9 => r = some (.int (sI (lvS g nN nT p v u))) ∧ WF E ad el (wTo (put10 g 2 p v u) nN) w w9) := by
    intro h w hw
    obtain ⟨j, C, hj, hC1, -, -, e2, e3⟩ := orI_set hP hP10 hC h
    have hS := or_lt hC1 (show j < 10 by omega)
    have hU : 2 ^ j < 2 ^ 10 := Nat.pow_lt_pow_right (by decide) (by omega)
    unfold lvS
    rw [e2, e3, nI_clamp (by omega), nI_clamp (by omega)]
    exact ct_X7_greatest hw hN1 hN30 hok1 hT1 hT12 hS hU
  refine V_aload_n dX7_leave_0 rfl ?_
  refine V_iload_n dX7_leave_1 rfl ?_
  refine V_iload_n dX7_leave_2 rfl ?_
  refine V_iload_n dX7_leave_3 rfl ?_
  refine V_rdV (0) mw_X7_mayFix mv_X7_137 dX7_leave_4 (ct_X7_mayFix hw hP hP10 p v u) hw.p0 rfl rfl rfl (Nat.le_of_ble_eq_true rfl) (by decide) (by decide) (by decide) (by decide) ?_
  refine V_if_ne 12 dX7_leave_7 (by decide) (fun h7 => ?_) (fun h7 => ?_)
  · skip
    refine V_aload_n dX7_leave_12 rfl ?_
    refine V_get (0) fl_X7_16 dX7_leave_13 hw.p0 rfl ?_
    refine V_iload_n dX7_leave_16 rfl ?_
    refine V_rdV (2) mw_X2_versionOf mv_X7_141 dX7_leave_17 (ct_X2_versionOf hw (Or.inl rfl) p) hw.p2 rfl rfl rfl (Nat.le_of_ble_eq_true rfl) (by decide) (by decide) (by decide) (by decide) ?_
    refine V_istore dX7_leave_20 (by decide) ?_
    refine V_aload_n dX7_leave_22 rfl ?_
    refine V_get (0) fl_X7_16 dX7_leave_23 hw.p0 rfl ?_
    refine V_iload_n dX7_leave_26 rfl ?_
    refine V_rdV (2) mw_X2_worthOf mv_X7_144 dX7_leave_27 (ct_X2_worthOf hw (Or.inl rfl) p) hw.p2 rfl rfl rfl (Nat.le_of_ble_eq_true rfl) (by decide) (by decide) (by decide) (by decide) ?_
    refine V_istore dX7_leave_30 (by decide) ?_
    refine V_aload_n dX7_leave_32 rfl ?_
    refine V_get (0) fl_X7_16 dX7_leave_33 hw.p0 rfl ?_
    refine V_iload_n dX7_leave_36 rfl ?_
    refine V_iload_n dX7_leave_37 rfl ?_
    refine V_iload_n dX7_leave_38 rfl ?_
    refine V_callV (2) mw_X2_put mv_X7_94 dX7_leave_39 (ct_X2_put hw.1 (Or.inl rfl) p v u) hw.p2 rfl rfl rfl (Nat.le_of_ble_eq_true rfl) (by decide) (by decide) (by decide) (by decide) (fun r39 ws1 hp39 => ?_)
    obtain ⟨rfl, hw1⟩ := hp39
    have hw1 := hw.trans hw1
    refine V_aload_n dX7_leave_42 rfl ?_
    refine V_aload_n dX7_leave_43 rfl ?_
    refine V_get (0) fl_X7_69 dX7_leave_44 hw1.p0 rfl ?_
    rw [hch1]
    refine V_iconst (v := 1) dX7_leave_47 (by decide) ?_
    refine V_iload_n dX7_leave_48 rfl ?_
    refine V_ishl dX7_leave_49 ?_
    refine V_ior dX7_leave_50 ?_
    refine V_iconst (v := 1) dX7_leave_51 (by decide) ?_
    refine V_iload_n dX7_leave_52 rfl ?_
    refine V_ishl dX7_leave_53 ?_
    refine V_callV (0) mw_X7_greatest mv_X7_124 dX7_leave_54 (hgr (bI_1 h7) hw1.1) hw1.p0 rfl rfl rfl (Nat.le_of_ble_eq_true rfl) (by decide) (by decide) (by decide) (by decide) (fun r54 ws2 hp54 => ?_)
    obtain ⟨rfl, hw2⟩ := hp54
    have hw2 := hw1.trans hw2
    refine V_istore dX7_leave_57 (by decide) ?_
    refine V_aload_n dX7_leave_59 rfl ?_
    refine V_get (0) fl_X7_16 dX7_leave_60 hw2.p0 rfl ?_
    refine V_iload_n dX7_leave_63 rfl ?_
    refine V_iload dX7_leave_64 rfl ?_
    refine V_iload dX7_leave_66 rfl ?_
    refine V_callV (2) mw_X2_put mv_X7_94 dX7_leave_68 (ct_X2_put hw2.1 (Or.inl rfl) p _ _) hw2.p2 rfl rfl rfl (Nat.le_of_ble_eq_true rfl) (by decide) (by decide) (by decide) (by decide) (fun r68 ws3 hp68 => ?_)
    obtain ⟨rfl, hw3⟩ := hp68
    have hw3 := hw2.trans hw3
    refine V_iload dX7_leave_71 rfl ?_
    refine V_iconst (v := -1) dX7_leave_73 (by decide) ?_
    refine V_icmp_ne 81 dX7_leave_74 (by decide) (fun h74 => ?_) (fun h74 => ?_)
    · skip
      refine V_aload_n dX7_leave_81 rfl ?_
      refine V_get (0) fl_X7_69 dX7_leave_82 hw3.p0 rfl ?_
      rw [show put10 (wTo (put10 g 2 p v u) nN) 2 p (at10 (g (2 + 1)) p) (at10 (g (2 + 2)) p) 0 10 = g 0 10 from by rw [put10_low _ _ _ _ _ _ (by decide) (by decide)]; exact hch]
      refine V_iload dX7_leave_85 rfl ?_
      refine V_iconst (v := -1) dX7_leave_87 (by decide) ?_
      refine V_ixor dX7_leave_88 ?_
      refine V_iand dX7_leave_89 ?_
      refine V_iret dX7_leave_90 rfl (by decide) (by decide) ?_
      exact fin2 (by rw [dLeave, if_pos (bI_1 h7), if_neg h74]) hw3
    · skip
      refine V_iconst (v := -1) dX7_leave_77 (by decide) ?_
      refine V_goto 90 dX7_leave_78 (by decide) ?_
      refine V_iret dX7_leave_90 rfl (by decide) (by decide) ?_
      exact fin2 (by rw [dLeave, if_pos (bI_1 h7), if_pos h74]) hw3
  · skip
    refine V_iconst (v := -1) dX7_leave_10 (by decide) ?_
    refine V_iret dX7_leave_11 rfl (by decide) (by decide) ?_
    exact fin2 (by rw [dLeave, if_neg (nb (bI_0 h7))]) hw
end DK3
end
section
/-! ===== TrainDeskModel (25 .. 45), the reference: its reading methods ===== -/
def T0 (g : Nat → Nat → Int32) : Nat → Nat → Int32 := va_up g 25 (upd (g 25) 0 0)
def isInB (v a b : Int32) : Bool := !decide (v < a) && !decide (b < v)
def mIsPt (g : Nat → Nat → Int32) (p : Int32) : Bool := !decide (p < 0) && !decide (g 25 19 ≤ p)
def isOfB (s p : Int32) : Bool := decide ((s >>> (p &&& 31)) &&& 1 = 1)
def mVer (g : Nat → Nat → Int32) (p set : Int32) : Int32 := if isOfB set p = true then g 27 p.toNatClampNeg else g 26 p.toNatClampNeg
def pMB (g : Nat → Nat → Int32) (set : Int32) (k : Nat) : Bool := decide (mVer g (g 31 k) set = g 32 k) && !isInB (mVer g (g 33 k) set) (g 34 k) (g 35 k)
def mBrk (g : Nat → Nat → Int32) (nN : Nat) (set : Int32) : Int32 := fi (pMB g set) nN 0
def pMR (f : Nat → Int32) (set : Int32) (i : Nat) : Bool := decide (f i &&& set = f i)
def mRed (g : Nat → Nat → Int32) (nT : Nat) (set : Int32) : Int32 := fi (pMR (g 36) set) nT 0
def mOff (g : Nat → Nat → Int32) (nP : Nat) : Nat := maskN (g 27) nP
def mGoes (g : Nat → Nat → Int32) (nP nN nT : Nat) (set : Int32) : Bool := decide (set &&& (nI (mOff g nP) ^^^ -1) = 0) && (decide (mBrk g nN set = -1) && decide (mRed g nT set = -1))
def mSum (g : Nat → Nat → Int32) (nP S : Nat) : Int32 := sumI (g 28) S nP
def MNOK (g : Nat → Nat → Int32) (n : Nat) : Prop := ∀ k, k < n → ∃ p o : Nat, p < 10 ∧ o < 10 ∧ g 31 k = nI p ∧ g 33 k = nI o
theorem mIsPt_in {g : Nat → Nat → Int32} {p : Int32} {nP : Nat} (hP : g 25 19 = nI nP) (hP10 : nP ≤ 10) (h : mIsPt g p = true) : ∃ j, j < nP ∧ p = nI j := by
  simp only [mIsPt, Bool.and_eq_true, Bool.not_eq_true', decide_eq_false_iff_not] at h
  rcases pk_ix p (n := nP) (by omega) with q | q | q
  · exact absurd q h.1
  · exact absurd (by rw [hP]; exact q) h.2
  · exact q
theorem isOfB_bit {S p : Nat} (hS : S < 2 ^ 31) (hp : p < 32) : isOfB (nI S) (nI p) = S.testBit p := by
  unfold isOfB
  rw [bitAt hS hp]
  cases S.testBit p <;> decide
section MD1
variable {E : VE} {ad : Nat → Nat} {el : Nat} {g : Nat → Nat → Int32} {w0 ws : va_W}
set_option maxHeartbeats 4000000 in
set_option maxRecDepth 20000 in
theorem ct_X8_thrown (hw : WF E ad el g w0 ws)  : Ct E yX8_thrown cX8_thrown 1 (some (.int)) 0 0 0 [.ref (ad 25)] ws (fun r w => r = some (.int (g 25 0)) ∧ w = ws) := by
  refine Ct_of mw_X8_thrown rfl (Nat.le_of_ble_eq_true rfl) ?_
  refine V_aload_n dX8_thrown_0 rfl ?_
  refine V_get (25) fl_X8_71 dX8_thrown_1 hw.p25 rfl ?_
  refine V_iret dX8_thrown_4 rfl (by decide) (by decide) ?_
  exact ⟨rfl, rfl⟩
set_option maxHeartbeats 4000000 in
set_option maxRecDepth 20000 in
theorem ct_X8_isIn (v a b : Int32) : Ct E yX8_isIn cX8_isIn 3 (some (.boolean)) 0 0 0 [.int v, .int a, .int b] ws (fun r w => r = some (.int (bI (isInB v a b))) ∧ w = ws) := by
  refine Ct_of mw_X8_isIn rfl (Nat.le_of_ble_eq_true rfl) ?_
  refine V_iload_n dX8_isIn_0 rfl ?_
  refine V_iload_n dX8_isIn_1 rfl ?_
  refine V_icmp_lt 14 dX8_isIn_2 (by decide) (fun h2 => ?_) (fun h2 => ?_)
  · skip
    refine V_iconst (v := 0) dX8_isIn_14 (by decide) ?_
    refine V_zret dX8_isIn_15 rfl (by first | exact Or.inl rfl | exact Or.inr rfl) (by decide) (by decide) ?_
    exact ⟨by simp [bI, isInB, h2], rfl⟩
  · skip
    refine V_iload_n dX8_isIn_5 rfl ?_
    refine V_iload_n dX8_isIn_6 rfl ?_
    refine V_icmp_gt 14 dX8_isIn_7 (by decide) (fun h7 => ?_) (fun h7 => ?_)
    · skip
      refine V_iconst (v := 0) dX8_isIn_14 (by decide) ?_
      refine V_zret dX8_isIn_15 rfl (by first | exact Or.inl rfl | exact Or.inr rfl) (by decide) (by decide) ?_
      exact ⟨by simp [bI, isInB, h2, h7], rfl⟩
    · skip
      refine V_iconst (v := 1) dX8_isIn_10 (by decide) ?_
      refine V_goto 15 dX8_isIn_11 (by decide) ?_
      refine V_zret dX8_isIn_15 rfl (by first | exact Or.inl rfl | exact Or.inr rfl) (by decide) (by decide) ?_
      exact ⟨by simp [bI, isInB, h2, h7], rfl⟩
set_option maxHeartbeats 4000000 in
set_option maxRecDepth 20000 in
theorem ct_X8_isPart (hw : WF E ad el g w0 ws) (p : Int32) : Ct E yX8_isPart cX8_isPart 2 (some (.boolean)) 0 0 0 [.ref (ad 25), .int p] ws (fun r w => r = some (.int (bI (mIsPt g p))) ∧ w = ws) := by
  refine Ct_of mw_X8_isPart rfl (Nat.le_of_ble_eq_true rfl) ?_
  refine V_iload_n dX8_isPart_0 rfl ?_
  refine V_if_lt 16 dX8_isPart_1 (by decide) (fun h1 => ?_) (fun h1 => ?_)
  · skip
    refine V_iconst (v := 0) dX8_isPart_16 (by decide) ?_
    refine V_zret dX8_isPart_17 rfl (by first | exact Or.inl rfl | exact Or.inr rfl) (by decide) (by decide) ?_
    exact ⟨by simp [bI, mIsPt, h1], rfl⟩
  · skip
    refine V_iload_n dX8_isPart_4 rfl ?_
    refine V_aload_n dX8_isPart_5 rfl ?_
    refine V_get (25) fl_X8_75 dX8_isPart_6 hw.p25 rfl ?_
    refine V_icmp_ge 16 dX8_isPart_9 (by decide) (fun h9 => ?_) (fun h9 => ?_)
    · skip
      refine V_iconst (v := 0) dX8_isPart_16 (by decide) ?_
      refine V_zret dX8_isPart_17 rfl (by first | exact Or.inl rfl | exact Or.inr rfl) (by decide) (by decide) ?_
      exact ⟨by simp [bI, mIsPt, h1, h9], rfl⟩
    · skip
      refine V_iconst (v := 1) dX8_isPart_12 (by decide) ?_
      refine V_goto 17 dX8_isPart_13 (by decide) ?_
      refine V_zret dX8_isPart_17 rfl (by first | exact Or.inl rfl | exact Or.inr rfl) (by decide) (by decide) ?_
      exact ⟨by simp [bI, mIsPt, h1, h9], rfl⟩
set_option maxHeartbeats 4000000 in
set_option maxRecDepth 20000 in
theorem ct_X8_isOf (s p : Int32) : Ct E yX8_isOf cX8_isOf 2 (some (.boolean)) 0 0 0 [.int s, .int p] ws (fun r w => r = some (.int (bI (isOfB s p))) ∧ w = ws) := by
  refine Ct_of mw_X8_isOf rfl (Nat.le_of_ble_eq_true rfl) ?_
  refine V_iload_n dX8_isOf_0 rfl ?_
  refine V_iload_n dX8_isOf_1 rfl ?_
  refine V_ishr dX8_isOf_2 ?_
  refine V_iconst (v := 1) dX8_isOf_3 (by decide) ?_
  refine V_iand dX8_isOf_4 ?_
  refine V_iconst (v := 1) dX8_isOf_5 (by decide) ?_
  refine V_icmp_ne 13 dX8_isOf_6 (by decide) (fun h6 => ?_) (fun h6 => ?_)
  · skip
    refine V_iconst (v := 0) dX8_isOf_13 (by decide) ?_
    refine V_zret dX8_isOf_14 rfl (by first | exact Or.inl rfl | exact Or.inr rfl) (by decide) (by decide) ?_
    exact ⟨by rw [isOfB, decide_eq_false h6]; rfl, rfl⟩
  · skip
    refine V_iconst (v := 1) dX8_isOf_9 (by decide) ?_
    refine V_goto 14 dX8_isOf_10 (by decide) ?_
    refine V_zret dX8_isOf_14 rfl (by first | exact Or.inl rfl | exact Or.inr rfl) (by decide) (by decide) ?_
    exact ⟨by rw [isOfB, decide_eq_true h6]; rfl, rfl⟩
def mSetB (g : Nat → Nat → Int32) (set : Int32) : Bool := isInB set 0 (((1 : Int32) <<< (g 25 19 &&& 31)) - 1)
set_option maxHeartbeats 4000000 in
set_option maxRecDepth 20000 in
theorem ct_X8_isSet (hw : WF E ad el g w0 ws) (set : Int32) : Ct E yX8_isSet cX8_isSet 2 (some (.boolean)) 1 0 0 [.ref (ad 25), .int set] ws (fun r w => r = some (.int (bI (mSetB g set))) ∧ w = ws) := by
  refine Ct_of mw_X8_isSet rfl (Nat.le_of_ble_eq_true rfl) ?_
  refine V_iload_n dX8_isSet_0 rfl ?_
  refine V_iconst (v := 0) dX8_isSet_1 (by decide) ?_
  refine V_iconst (v := 1) dX8_isSet_2 (by decide) ?_
  refine V_aload_n dX8_isSet_3 rfl ?_
  refine V_get (25) fl_X8_75 dX8_isSet_4 hw.p25 rfl ?_
  refine V_ishl dX8_isSet_7 ?_
  refine V_iconst (v := 1) dX8_isSet_8 (by decide) ?_
  refine V_isub dX8_isSet_9 ?_
  refine V_rdS mw_X8_isIn ms_X8_82 dX8_isSet_10 (ct_X8_isIn _ _ _) rfl rfl (Nat.le_of_ble_eq_true rfl) (by decide) (by decide) (by decide) (by decide) ?_
  refine V_zret dX8_isSet_13 rfl (bI_or _) (by decide) (by decide) ?_
  exact ⟨rfl, rfl⟩
set_option maxHeartbeats 4000000 in
set_option maxRecDepth 20000 in
theorem ct_X8_version (hw : WF E ad el g w0 ws) {p : Int32} (hp : vp_in p 10) (set : Int32) : Ct E yX8_version cX8_version 3 (some (.int)) 1 0 0 [.ref (ad 25), .int p, .int set] ws (fun r w => r = some (.int (mVer g p set)) ∧ w = ws) := by
  refine Ct_of mw_X8_version rfl (Nat.le_of_ble_eq_true rfl) ?_
  refine V_iload_n dX8_version_0 rfl ?_
  refine V_iload_n dX8_version_1 rfl ?_
  refine V_rdS mw_X8_isOf ms_X8_93 dX8_version_2 (ct_X8_isOf set p) rfl rfl (Nat.le_of_ble_eq_true rfl) (by decide) (by decide) (by decide) (by decide) ?_
  refine V_if_eq 17 dX8_version_5 (by decide) (fun h5 => ?_) (fun h5 => ?_)
  · skip
    refine V_aload_n dX8_version_17 rfl ?_
    refine V_get (25) fl_X8_9 dX8_version_18 hw.p25 rfl ?_
    refine V_iload_n dX8_version_21 rfl ?_
    refine V_iald (26) dX8_version_22 hw.p26 hp ?_
    refine V_iret dX8_version_23 rfl (by decide) (by decide) ?_
    exact fin1 (by rw [mVer, if_neg (nb (bI_0 h5))])
  · skip
    refine V_aload_n dX8_version_8 rfl ?_
    refine V_get (25) fl_X8_13 dX8_version_9 hw.p25 rfl ?_
    refine V_iload_n dX8_version_12 rfl ?_
    refine V_iald (27) dX8_version_13 hw.p27 hp ?_
    refine V_goto 23 dX8_version_14 (by decide) ?_
    refine V_iret dX8_version_23 rfl (by decide) (by decide) ?_
    exact fin1 (by rw [mVer, if_pos (bI_1 h5)])
set_option maxHeartbeats 4000000 in
set_option maxRecDepth 20000 in
theorem lp_X8_broken (hw : WF E ad el g w0 ws) {nN : Nat} (hN : g 25 20 = nI nN) (hN30 : nN ≤ 30) (hok : MNOK g nN) (set : Int32) : ∀ (k i : Nat) (x : Int32), i ≤ nN → nN < i + k → x = nI i → mBrk g nN set = fi (pMB g set) (nN - i) i → V E yX8_broken cX8_broken 3 (some (.int)) 2 0 0 (fun r w => r = some (.int (mBrk g nN set)) ∧ w = ws) 2 [some (.ref (ad 25)), some (.int set), some (.int x)] [] ws 0 0 := by
  intro k
  induction k with
  | zero => intro i x h1 h2; exact absurd h2 (by omega)
  | succ k ih =>
    intro i x hil hin hx hinv
    subst hx
    refine V_iload_n dX8_broken_2 rfl ?_
    refine V_aload_n dX8_broken_3 rfl ?_
    refine V_get (25) fl_X8_97 dX8_broken_4 hw.p25 rfl ?_
    refine V_icmp_ge 67 dX8_broken_7 (by decide) (fun h7 => ?_) (fun h7 => ?_)
    · skip
      refine V_iconst (v := -1) dX8_broken_67 (by decide) ?_
      refine V_iret dX8_broken_68 rfl (by decide) (by decide) ?_
      have hi := leK (a := nN) (b := i) (by omega) (by omega) (by rw [← hN]; exact h7)
      exact ⟨by rw [hinv, fi_end hi], rfl⟩
    · skip
      have hi := nleK (a := nN) (b := i) (by omega) (by omega) (by rw [← hN]; exact h7)
      obtain ⟨p, o, hp, ho, ep, eo⟩ := hok i hi
      refine V_aload_n dX8_broken_10 rfl ?_
      refine V_aload_n dX8_broken_11 rfl ?_
      refine V_get (25) fl_X8_25 dX8_broken_12 hw.p25 rfl ?_
      refine V_iload_n dX8_broken_15 rfl ?_
      refine V_ialdN (31) dX8_broken_16 hw.p31 (by omega) (by first | decide | omega) ?_
      refine V_iload_n dX8_broken_17 rfl ?_
      refine V_rdV (25) mw_X8_version mv_X8_106 dX8_broken_18 (ct_X8_version hw (p := g 31 i) (by rw [ep]; exact vp_in_nI hp (by decide)) set) hw.p25 rfl rfl rfl (Nat.le_of_ble_eq_true rfl) (by decide) (by decide) (by decide) (by decide) ?_
      refine V_aload_n dX8_broken_21 rfl ?_
      refine V_get (25) fl_X8_28 dX8_broken_22 hw.p25 rfl ?_
      refine V_iload_n dX8_broken_25 rfl ?_
      refine V_ialdN (32) dX8_broken_26 hw.p32 (by omega) (by first | decide | omega) ?_
      refine V_icmp_ne 61 dX8_broken_27 (by decide) (fun h27 => ?_) (fun h27 => ?_)
      · skip
        refine V_iinc dX8_broken_61 rfl rfl (by decide) ?_
        refine V_goto 2 dX8_broken_64 (by decide) ?_
        exact ih (i + 1) _ (by omega) (by omega) (nI_1 i) (by rw [hinv, fi_step hi, if_neg (by simp [pMB, h27])])
      · skip
        refine V_aload_n dX8_broken_30 rfl ?_
        refine V_aload_n dX8_broken_31 rfl ?_
        refine V_get (25) fl_X8_31 dX8_broken_32 hw.p25 rfl ?_
        refine V_iload_n dX8_broken_35 rfl ?_
        refine V_ialdN (33) dX8_broken_36 hw.p33 (by omega) (by first | decide | omega) ?_
        refine V_iload_n dX8_broken_37 rfl ?_
        refine V_rdV (25) mw_X8_version mv_X8_106 dX8_broken_38 (ct_X8_version hw (p := g 33 i) (by rw [eo]; exact vp_in_nI ho (by decide)) set) hw.p25 rfl rfl rfl (Nat.le_of_ble_eq_true rfl) (by decide) (by decide) (by decide) (by decide) ?_
        refine V_aload_n dX8_broken_41 rfl ?_
        refine V_get (25) fl_X8_34 dX8_broken_42 hw.p25 rfl ?_
        refine V_iload_n dX8_broken_45 rfl ?_
        refine V_ialdN (34) dX8_broken_46 hw.p34 (by omega) (by first | decide | omega) ?_
        refine V_aload_n dX8_broken_47 rfl ?_
        refine V_get (25) fl_X8_37 dX8_broken_48 hw.p25 rfl ?_
        refine V_iload_n dX8_broken_51 rfl ?_
        refine V_ialdN (35) dX8_broken_52 hw.p35 (by omega) (by first | decide | omega) ?_
        refine V_rdS mw_X8_isIn ms_X8_82 dX8_broken_53 (ct_X8_isIn _ _ _) rfl rfl (Nat.le_of_ble_eq_true rfl) (by decide) (by decide) (by decide) (by decide) ?_
        refine V_if_ne 61 dX8_broken_56 (by decide) (fun h56 => ?_) (fun h56 => ?_)
        · skip
          refine V_iinc dX8_broken_61 rfl rfl (by decide) ?_
          refine V_goto 2 dX8_broken_64 (by decide) ?_
          exact ih (i + 1) _ (by omega) (by omega) (nI_1 i) (by rw [hinv, fi_step hi, if_neg (by simp [pMB, bI_1 h56])])
        · skip
          refine V_iload_n dX8_broken_59 rfl ?_
          refine V_iret dX8_broken_60 rfl (by decide) (by decide) ?_
          exact ⟨by rw [hinv, fi_step hi, if_pos (by simp [pMB, h27, bI_0 h56])], rfl⟩
set_option maxHeartbeats 4000000 in
set_option maxRecDepth 20000 in
theorem ct_X8_broken (hw : WF E ad el g w0 ws) {nN : Nat} (hN : g 25 20 = nI nN) (hN30 : nN ≤ 30) (hok : MNOK g nN) (set : Int32) : Ct E yX8_broken cX8_broken 3 (some (.int)) 2 0 0 [.ref (ad 25), .int set] ws (fun r w => r = some (.int (mBrk g nN set)) ∧ w = ws) := by
  refine Ct_of mw_X8_broken rfl (Nat.le_of_ble_eq_true rfl) ?_
  refine V_iconst (v := 0) dX8_broken_0 (by decide) ?_
  refine V_istore_n dX8_broken_1 (by decide) ?_
  exact lp_X8_broken hw hN hN30 hok set (nN + 1) 0 _ (Nat.zero_le _) (by omega) rfl rfl
set_option maxHeartbeats 4000000 in
set_option maxRecDepth 20000 in
theorem lp_X8_redOf (hw : WF E ad el g w0 ws) {nT : Nat} (hT : g 25 21 = nI nT) (hT12 : nT ≤ 12) (set : Int32) : ∀ (k i : Nat) (x : Int32), i ≤ nT → nT < i + k → x = nI i → mRed g nT set = fi (pMR (g 36) set) (nT - i) i → V E yX8_redOf cX8_redOf 3 (some (.int)) 0 0 0 (fun r w => r = some (.int (mRed g nT set)) ∧ w = ws) 2 [some (.ref (ad 25)), some (.int set), some (.int x)] [] ws 0 0 := by
  intro k
  induction k with
  | zero => intro i x h1 h2; exact absurd h2 (by omega)
  | succ k ih =>
    intro i x hil hin hx hinv
    subst hx
    refine V_iload_n dX8_redOf_2 rfl ?_
    refine V_aload_n dX8_redOf_3 rfl ?_
    refine V_get (25) fl_X8_100 dX8_redOf_4 hw.p25 rfl ?_
    refine V_icmp_ge 35 dX8_redOf_7 (by decide) (fun h7 => ?_) (fun h7 => ?_)
    · skip
      refine V_iconst (v := -1) dX8_redOf_35 (by decide) ?_
      refine V_iret dX8_redOf_36 rfl (by decide) (by decide) ?_
      have hi := leK (a := nT) (b := i) (by omega) (by omega) (by rw [← hT]; exact h7)
      exact ⟨by rw [hinv, fi_end hi], rfl⟩
    · skip
      have hi := nleK (a := nT) (b := i) (by omega) (by omega) (by rw [← hT]; exact h7)
      refine V_aload_n dX8_redOf_10 rfl ?_
      refine V_get (25) fl_X8_40 dX8_redOf_11 hw.p25 rfl ?_
      refine V_iload_n dX8_redOf_14 rfl ?_
      refine V_ialdN (36) dX8_redOf_15 hw.p36 (by omega) (by first | decide | omega) ?_
      refine V_iload_n dX8_redOf_16 rfl ?_
      refine V_iand dX8_redOf_17 ?_
      refine V_aload_n dX8_redOf_18 rfl ?_
      refine V_get (25) fl_X8_40 dX8_redOf_19 hw.p25 rfl ?_
      refine V_iload_n dX8_redOf_22 rfl ?_
      refine V_ialdN (36) dX8_redOf_23 hw.p36 (by omega) (by first | decide | omega) ?_
      refine V_icmp_ne 29 dX8_redOf_24 (by decide) (fun h24 => ?_) (fun h24 => ?_)
      · skip
        refine V_iinc dX8_redOf_29 rfl rfl (by decide) ?_
        refine V_goto 2 dX8_redOf_32 (by decide) ?_
        exact ih (i + 1) _ (by omega) (by omega) (nI_1 i) (by rw [hinv, fi_step hi, if_neg (by rw [pMR, decide_eq_true_eq]; exact h24)])
      · skip
        refine V_iload_n dX8_redOf_27 rfl ?_
        refine V_iret dX8_redOf_28 rfl (by decide) (by decide) ?_
        exact ⟨by rw [hinv, fi_step hi, if_pos (by rw [pMR, decide_eq_true_eq]; exact h24)], rfl⟩
set_option maxHeartbeats 4000000 in
set_option maxRecDepth 20000 in
theorem ct_X8_redOf (hw : WF E ad el g w0 ws) {nT : Nat} (hT : g 25 21 = nI nT) (hT12 : nT ≤ 12) (set : Int32) : Ct E yX8_redOf cX8_redOf 3 (some (.int)) 0 0 0 [.ref (ad 25), .int set] ws (fun r w => r = some (.int (mRed g nT set)) ∧ w = ws) := by
  refine Ct_of mw_X8_redOf rfl (Nat.le_of_ble_eq_true rfl) ?_
  refine V_iconst (v := 0) dX8_redOf_0 (by decide) ?_
  refine V_istore_n dX8_redOf_1 (by decide) ?_
  exact lp_X8_redOf hw hT hT12 set (nT + 1) 0 _ (Nat.zero_le _) (by omega) rfl rfl
set_option maxHeartbeats 4000000 in
set_option maxRecDepth 20000 in
theorem lp_X8_offered (hw : WF E ad el g w0 ws) {nP : Nat} (hP : g 25 19 = nI nP) (hP10 : nP ≤ 10) : ∀ (k p : Nat) (m x : Int32), p ≤ nP → nP < p + k → m = nI (maskN (g 27) p) → x = nI p → V E yX8_offered cX8_offered 3 (some (.int)) 0 0 0 (fun r w => r = some (.int (nI (mOff g nP))) ∧ w = ws) 4 [some (.ref (ad 25)), some (.int m), some (.int x)] [] ws 0 0 := by
  intro k
  induction k with
  | zero => intro p m x h1 h2; exact absurd h2 (by omega)
  | succ k ih =>
    intro p m x hpl hpn hm hx
    subst hm hx
    refine V_iload_n dX8_offered_4 rfl ?_
    refine V_aload_n dX8_offered_5 rfl ?_
    refine V_get (25) fl_X8_75 dX8_offered_6 hw.p25 rfl ?_
    refine V_icmp_ge 38 dX8_offered_9 (by decide) (fun h9 => ?_) (fun h9 => ?_)
    · skip
      refine V_iload_n dX8_offered_38 rfl ?_
      refine V_iret dX8_offered_39 rfl (by decide) (by decide) ?_
      have hp : p = nP := by have := leK (a := nP) (b := p) (by omega) (by omega) (by rw [← hP]; exact h9); omega
      subst hp
      exact ⟨rfl, rfl⟩
    · skip
      have hp := nleK (a := nP) (b := p) (by omega) (by omega) (by rw [← hP]; exact h9)
      refine V_iload_n dX8_offered_12 rfl ?_
      refine V_aload_n dX8_offered_13 rfl ?_
      refine V_get (25) fl_X8_13 dX8_offered_14 hw.p25 rfl ?_
      refine V_iload_n dX8_offered_17 rfl ?_
      refine V_ialdN (27) dX8_offered_18 hw.p27 (by omega) (by first | decide | omega) ?_
      refine V_iconst (v := -1) dX8_offered_19 (by decide) ?_
      refine V_icmp_eq 29 dX8_offered_20 (by decide) (fun h20 => ?_) (fun h20 => ?_)
      · skip
        refine V_iconst (v := 0) dX8_offered_29 (by decide) ?_
        refine V_ior dX8_offered_30 ?_
        refine V_istore_n dX8_offered_31 (by decide) ?_
        refine V_iinc dX8_offered_32 rfl rfl (by decide) ?_
        refine V_goto 4 dX8_offered_35 (by decide) ?_
        exact ih (p + 1) _ _ (by omega) (by omega) (by rw [maskN, if_pos h20]; exact (nx_or _ 0).trans (by rw [Nat.or_zero])) (nI_1 p)
      · skip
        refine V_iconst (v := 1) dX8_offered_23 (by decide) ?_
        refine V_iload_n dX8_offered_24 rfl ?_
        refine V_ishl dX8_offered_25 ?_
        refine V_goto 30 dX8_offered_26 (by decide) ?_
        refine V_ior dX8_offered_30 ?_
        refine V_istore_n dX8_offered_31 (by decide) ?_
        refine V_iinc dX8_offered_32 rfl rfl (by decide) ?_
        refine V_goto 4 dX8_offered_35 (by decide) ?_
        exact ih (p + 1) _ _ (by omega) (by omega) (by rw [maskN, if_neg h20, shl1 p (by omega), nx_or]) (nI_1 p)
set_option maxHeartbeats 4000000 in
set_option maxRecDepth 20000 in
theorem ct_X8_offered (hw : WF E ad el g w0 ws) {nP : Nat} (hP : g 25 19 = nI nP) (hP10 : nP ≤ 10) : Ct E yX8_offered cX8_offered 3 (some (.int)) 0 0 0 [.ref (ad 25)] ws (fun r w => r = some (.int (nI (mOff g nP))) ∧ w = ws) := by
  refine Ct_of mw_X8_offered rfl (Nat.le_of_ble_eq_true rfl) ?_
  refine V_iconst (v := 0) dX8_offered_0 (by decide) ?_
  refine V_istore_n dX8_offered_1 (by decide) ?_
  refine V_iconst (v := 0) dX8_offered_2 (by decide) ?_
  refine V_istore_n dX8_offered_3 (by decide) ?_
  exact lp_X8_offered hw hP hP10 (nP + 1) 0 _ _ (Nat.zero_le _) (by omega) rfl rfl
set_option maxHeartbeats 4000000 in
set_option maxRecDepth 20000 in
theorem lp_X8_worthOf (hw : WF E ad el g w0 ws) {nP : Nat} (hP : g 25 19 = nI nP) (hP10 : nP ≤ 10) {S : Nat} (hS : S < 1024) : ∀ (k p : Nat) (m x : Int32), p ≤ nP → nP < p + k → m = sumI (g 28) S p → x = nI p → V E yX8_worthOf cX8_worthOf 4 (some (.int)) 1 0 0 (fun r w => r = some (.int (mSum g nP S)) ∧ w = ws) 4 [some (.ref (ad 25)), some (.int (nI S)), some (.int m), some (.int x)] [] ws 0 0 := by
  intro k
  induction k with
  | zero => intro p m x h1 h2; exact absurd h2 (by omega)
  | succ k ih =>
    intro p m x hpl hpn hm hx
    subst hm hx
    refine V_iload_n dX8_worthOf_4 rfl ?_
    refine V_aload_n dX8_worthOf_5 rfl ?_
    refine V_get (25) fl_X8_75 dX8_worthOf_6 hw.p25 rfl ?_
    refine V_icmp_ge 39 dX8_worthOf_9 (by decide) (fun h9 => ?_) (fun h9 => ?_)
    · skip
      refine V_iload_n dX8_worthOf_39 rfl ?_
      refine V_iret dX8_worthOf_40 rfl (by decide) (by decide) ?_
      have hp : p = nP := by have := leK (a := nP) (b := p) (by omega) (by omega) (by rw [← hP]; exact h9); omega
      subst hp
      exact ⟨rfl, rfl⟩
    · skip
      have hp := nleK (a := nP) (b := p) (by omega) (by omega) (by rw [← hP]; exact h9)
      refine V_iload_n dX8_worthOf_12 rfl ?_
      refine V_iload_n dX8_worthOf_13 rfl ?_
      refine V_iload_n dX8_worthOf_14 rfl ?_
      refine V_rdS mw_X8_isOf ms_X8_93 dX8_worthOf_15 (ct_X8_isOf _ _) rfl rfl (Nat.le_of_ble_eq_true rfl) (by decide) (by decide) (by decide) (by decide) ?_
      refine V_if_eq 30 dX8_worthOf_18 (by decide) (fun h18 => ?_) (fun h18 => ?_)
      · skip
        refine V_iconst (v := 0) dX8_worthOf_30 (by decide) ?_
        refine V_iadd dX8_worthOf_31 ?_
        refine V_istore_n dX8_worthOf_32 (by decide) ?_
        refine V_iinc dX8_worthOf_33 rfl rfl (by decide) ?_
        refine V_goto 4 dX8_worthOf_36 (by decide) ?_
        have hb := bI_0 h18
        rw [isOfB_bit (by omega) (by omega)] at hb
        exact ih (p + 1) _ _ (by omega) (by omega) (by rw [sumI, if_neg (nb hb)]; exact Int32.add_zero _) (nI_1 p)
      · skip
        refine V_aload_n dX8_worthOf_21 rfl ?_
        refine V_get (25) fl_X8_16 dX8_worthOf_22 hw.p25 rfl ?_
        refine V_iload_n dX8_worthOf_25 rfl ?_
        refine V_ialdN (28) dX8_worthOf_26 hw.p28 (by omega) (by first | decide | omega) ?_
        refine V_goto 31 dX8_worthOf_27 (by decide) ?_
        refine V_iadd dX8_worthOf_31 ?_
        refine V_istore_n dX8_worthOf_32 (by decide) ?_
        refine V_iinc dX8_worthOf_33 rfl rfl (by decide) ?_
        refine V_goto 4 dX8_worthOf_36 (by decide) ?_
        have hb := bI_1 h18
        rw [isOfB_bit (by omega) (by omega)] at hb
        exact ih (p + 1) _ _ (by omega) (by omega) (by rw [sumI, if_pos hb]) (nI_1 p)
set_option maxHeartbeats 4000000 in
set_option maxRecDepth 20000 in
theorem ct_X8_worthOf (hw : WF E ad el g w0 ws) {nP : Nat} (hP : g 25 19 = nI nP) (hP10 : nP ≤ 10) {S : Nat} (hS : S < 1024) : Ct E yX8_worthOf cX8_worthOf 4 (some (.int)) 1 0 0 [.ref (ad 25), .int (nI S)] ws (fun r w => r = some (.int (mSum g nP S)) ∧ w = ws) := by
  refine Ct_of mw_X8_worthOf rfl (Nat.le_of_ble_eq_true rfl) ?_
  refine V_iconst (v := 0) dX8_worthOf_0 (by decide) ?_
  refine V_istore_n dX8_worthOf_1 (by decide) ?_
  refine V_iconst (v := 0) dX8_worthOf_2 (by decide) ?_
  refine V_istore_n dX8_worthOf_3 (by decide) ?_
  exact lp_X8_worthOf hw hP hP10 hS (nP + 1) 0 _ _ (Nat.zero_le _) (by omega) rfl rfl
set_option maxHeartbeats 4000000 in
set_option maxRecDepth 20000 in
theorem ct_X8_goes (hw : WF E ad el g w0 ws) {nP : Nat} (hP : g 25 19 = nI nP) (hP10 : nP ≤ 10) {nN : Nat} (hN : g 25 20 = nI nN) (hN30 : nN ≤ 30) (hok : MNOK g nN) {nT : Nat} (hT : g 25 21 = nI nT) (hT12 : nT ≤ 12) (set : Int32) : Ct E yX8_goes cX8_goes 2 (some (.boolean)) 3 0 0 [.ref (ad 25), .int set] ws (fun r w => r = some (.int (bI (mGoes g nP nN nT set))) ∧ w = ws) := by
  refine Ct_of mw_X8_goes rfl (Nat.le_of_ble_eq_true rfl) ?_
  refine V_iload_n dX8_goes_0 rfl ?_
  refine V_aload_n dX8_goes_1 rfl ?_
  refine V_rdV (25) mw_X8_offered mv_X8_110 dX8_goes_2 (ct_X8_offered hw hP hP10) hw.p25 rfl rfl rfl (Nat.le_of_ble_eq_true rfl) (by decide) (by decide) (by decide) (by decide) ?_
  refine V_iconst (v := -1) dX8_goes_5 (by decide) ?_
  refine V_ixor dX8_goes_6 ?_
  refine V_iand dX8_goes_7 ?_
  refine V_if_ne 33 dX8_goes_8 (by decide) (fun h8 => ?_) (fun h8 => ?_)
  · skip
    refine V_iconst (v := 0) dX8_goes_33 (by decide) ?_
    refine V_zret dX8_goes_34 rfl (by first | exact Or.inl rfl | exact Or.inr rfl) (by decide) (by decide) ?_
    exact ⟨by rw [mGoes, decide_eq_false h8]; rfl, rfl⟩
  · skip
    refine V_aload_n dX8_goes_11 rfl ?_
    refine V_iload_n dX8_goes_12 rfl ?_
    refine V_rdV (25) mw_X8_broken mv_X8_114 dX8_goes_13 (ct_X8_broken hw hN hN30 hok set) hw.p25 rfl rfl rfl (Nat.le_of_ble_eq_true rfl) (by decide) (by decide) (by decide) (by decide) ?_
    refine V_iconst (v := -1) dX8_goes_16 (by decide) ?_
    refine V_icmp_ne 33 dX8_goes_17 (by decide) (fun h17 => ?_) (fun h17 => ?_)
    · skip
      refine V_iconst (v := 0) dX8_goes_33 (by decide) ?_
      refine V_zret dX8_goes_34 rfl (by first | exact Or.inl rfl | exact Or.inr rfl) (by decide) (by decide) ?_
      exact ⟨by rw [mGoes, decide_eq_true h8, decide_eq_false h17]; rfl, rfl⟩
    · skip
      refine V_aload_n dX8_goes_20 rfl ?_
      refine V_iload_n dX8_goes_21 rfl ?_
      refine V_rdV (25) mw_X8_redOf mv_X8_118 dX8_goes_22 (ct_X8_redOf hw hT hT12 set) hw.p25 rfl rfl rfl (Nat.le_of_ble_eq_true rfl) (by decide) (by decide) (by decide) (by decide) ?_
      refine V_iconst (v := -1) dX8_goes_25 (by decide) ?_
      refine V_icmp_ne 33 dX8_goes_26 (by decide) (fun h26 => ?_) (fun h26 => ?_)
      · skip
        refine V_iconst (v := 0) dX8_goes_33 (by decide) ?_
        refine V_zret dX8_goes_34 rfl (by first | exact Or.inl rfl | exact Or.inr rfl) (by decide) (by decide) ?_
        exact ⟨by rw [mGoes, decide_eq_true h8, decide_eq_true h17, decide_eq_false h26]; rfl, rfl⟩
      · skip
        refine V_iconst (v := 1) dX8_goes_29 (by decide) ?_
        refine V_goto 34 dX8_goes_30 (by decide) ?_
        refine V_zret dX8_goes_34 rfl (by first | exact Or.inl rfl | exact Or.inr rfl) (by decide) (by decide) ?_
        exact ⟨by rw [mGoes, decide_eq_true h8, decide_eq_true h17, decide_eq_true h26]; rfl, rfl⟩
/-- of two sets: is s better than b -/
def mBet (g : Nat → Nat → Int32) (nP s : Nat) (b : Option Nat) : Bool := match b with
  | none => true
  | some b => !decide (mSum g nP s ≤ mSum g nP b) || (decide (mSum g nP s = mSum g nP b) && lowerB (nI s) (nI b))
def mCand (g : Nat → Nat → Int32) (nP nN nT U M s : Nat) (b : Option Nat) : Bool := decide (s &&& U = U) && (decide (dif s M = 0) && (mGoes g nP nN nT (nI s) && mBet g nP s b))
def mbL (g : Nat → Nat → Int32) (nP nN nT U M : Nat) : Nat → Nat → Option Nat → Option Nat
  | 0, _, b => b
  | k + 1, s, b => mbL g nP nN nT U M k (s + 1) (if mCand g nP nN nT U M s b = true then some s else b)
def mBest (g : Nat → Nat → Int32) (nP nN nT U M : Nat) : Option Nat := mbL g nP nN nT U M (2 ^ nP) 0 none
theorem mbL_step {g : Nat → Nat → Int32} {nP nN nT U M n s : Nat} {b : Option Nat} (h : s < n) : mbL g nP nN nT U M (n - s) s b = mbL g nP nN nT U M (n - (s + 1)) (s + 1) (if mCand g nP nN nT U M s b = true then some s else b) := by rw [show n - s = (n - (s + 1)) + 1 by omega, mbL]
set_option maxHeartbeats 4000000 in
set_option maxRecDepth 20000 in
theorem lp_X8_best (hw : WF E ad el g w0 ws) {nP : Nat} (hP : g 25 19 = nI nP) (hP10 : nP ≤ 10) {nN : Nat} (hN : g 25 20 = nI nN) (hN30 : nN ≤ 30) (hok : MNOK g nN) {nT : Nat} (hT : g 25 21 = nI nT) (hT12 : nT ≤ 12) {U M : Nat} (hU : U < 1024) (hM : M < 1024) : ∀ (k s : Nat) (b : Option Nat) (xb x : Int32) (z5 : Option Value), s ≤ 2 ^ nP → 2 ^ nP < s + k → xb = sI b → x = nI s → (∀ z, b = some z → z < 1024) → mBest g nP nN nT U M = mbL g nP nN nT U M (2 ^ nP - s) s b → V E yX8_best cX8_best 6 (some (.int)) 4 0 0 (fun r w => r = some (.int (sI (mBest g nP nN nT U M))) ∧ w = ws) 5 [some (.ref (ad 25)), some (.int (nI U)), some (.int (nI M)), some (.int xb), some (.int x), z5] [] ws 0 0 := by
  have hpw : 2 ^ nP ≤ 2 ^ 10 := Nat.pow_le_pow_right (by decide) hP10
  intro k
  induction k with
  | zero => intro s b xb x z5 h1 h2; exact absurd h2 (by omega)
  | succ k ih =>
    intro s b xb x z5 hsl hsn hxb hx hb hinv
    subst hxb hx
    refine V_iload dX8_best_5 rfl ?_
    refine V_iconst (v := 1) dX8_best_7 (by decide) ?_
    refine V_aload_n dX8_best_8 rfl ?_
    refine V_get (25) fl_X8_75 dX8_best_9 hw.p25 rfl ?_
    refine V_ishl dX8_best_12 ?_
    rw [hP, shl1 nP (by omega)]
    refine V_icmp_ge 113 dX8_best_13 (by decide) (fun h13 => ?_) (fun h13 => ?_)
    · skip
      refine V_iload_n dX8_best_113 rfl ?_
      refine V_iret dX8_best_114 rfl (by decide) (by decide) ?_
      have hs : s = 2 ^ nP := by have := leK (a := 2 ^ nP) (b := s) (by omega) (by omega) h13; omega
      subst hs
      exact ⟨by rw [hinv, Nat.sub_self, mbL], rfl⟩
    · skip
      have hs := nleK (a := 2 ^ nP) (b := s) (by omega) (by omega) h13
      refine V_iload dX8_best_16 rfl ?_
      refine V_iload_n dX8_best_18 rfl ?_
      refine V_iand dX8_best_19 ?_
      refine V_iload_n dX8_best_20 rfl ?_
      refine V_icmp_ne 107 dX8_best_21 (by decide) (fun h21 => ?_) (fun h21 => ?_)
      · skip
        refine V_iinc dX8_best_107 rfl rfl (by decide) ?_
        refine V_goto 5 dX8_best_110 (by decide) ?_
        have q1 : ¬ s &&& U = U := fun z => h21 (by rw [nx_and, z])
        have c : mCand g nP nN nT U M s b = false := by simp [mCand, mBet, q1]
        exact ih (s + 1) b _ _ _ (by omega) (by omega) rfl (nI_1 s) hb (by rw [hinv, mbL_step hs, if_neg (nb c)])
      · skip
        refine V_iload dX8_best_24 rfl ?_
        refine V_iload_n dX8_best_26 rfl ?_
        refine V_iconst (v := -1) dX8_best_27 (by decide) ?_
        refine V_ixor dX8_best_28 ?_
        refine V_iand dX8_best_29 ?_
        refine V_if_ne 107 dX8_best_30 (by decide) (fun h30 => ?_) (fun h30 => ?_)
        · skip
          refine V_iinc dX8_best_107 rfl rfl (by decide) ?_
          refine V_goto 5 dX8_best_110 (by decide) ?_
          have q1 : s &&& U = U := nI_inj1024 (Nat.lt_of_le_of_lt Nat.and_le_left (by omega)) hU (by rw [← nx_and]; exact h21)
          have q2 : ¬ dif s M = 0 := fun z => h30 (by rw [nx_dif, z]; rfl)
          have c : mCand g nP nN nT U M s b = false := by simp [mCand, mBet, q1, q2]
          exact ih (s + 1) b _ _ _ (by omega) (by omega) rfl (nI_1 s) hb (by rw [hinv, mbL_step hs, if_neg (nb c)])
        · skip
          refine V_aload_n dX8_best_33 rfl ?_
          refine V_iload dX8_best_34 rfl ?_
          refine V_rdV (25) mw_X8_goes mv_X8_121 dX8_best_36 (ct_X8_goes hw hP hP10 hN hN30 hok hT hT12 _) hw.p25 rfl rfl rfl (Nat.le_of_ble_eq_true rfl) (by decide) (by decide) (by decide) (by decide) ?_
          refine V_if_ne 45 dX8_best_39 (by decide) (fun h39 => ?_) (fun h39 => ?_)
          · skip
            refine V_iload_n dX8_best_45 rfl ?_
            refine V_iconst (v := -1) dX8_best_46 (by decide) ?_
            refine V_icmp_eq 64 dX8_best_47 (by decide) (fun h47 => ?_) (fun h47 => ?_)
            · skip
              refine V_iload dX8_best_64 rfl ?_
              refine V_istore_n dX8_best_66 (by decide) ?_
              refine V_goto 107 dX8_best_67 (by decide) ?_
              refine V_iinc dX8_best_107 rfl rfl (by decide) ?_
              refine V_goto 5 dX8_best_110 (by decide) ?_
              have q1 : s &&& U = U := nI_inj1024 (Nat.lt_of_le_of_lt Nat.and_le_left (by omega)) hU (by rw [← nx_and]; exact h21)
              have q2 : dif s M = 0 := nI_inj1024 (dif_lt (by omega)) (by decide) (by rw [← nx_dif]; exact h30)
              have q3 := bI_1 h39
              have hz : b = none := by
                cases b with
                | none => rfl
                | some b0 => exact absurd h47 (nI_ne_m1 (by have := hb b0 rfl; omega))
              subst hz
              have c : mCand g nP nN nT U M s none = true := by simp [mCand, mBet, q1, q2, q3]
              exact ih (s + 1) (some s) _ _ _ (by omega) (by omega) rfl (nI_1 s) (fun z h => by cases h; omega) (by rw [hinv, mbL_step hs, if_pos c])
            · skip
              obtain ⟨b0, rfl⟩ : ∃ b0, b = some b0 := by
                cases b with
                | none => exact absurd rfl h47
                | some b0 => exact ⟨b0, rfl⟩
              have hb0 := hb b0 rfl
              have hwb : ∀ {w : va_W} {v : va_W}, WF E ad el g v w → Ct E yX8_worthOf cX8_worthOf 4 (some (.int)) 1 0 0 [.ref (ad 25), .int (sI (some b0))] w (fun r w9 => r = some (.int (mSum g nP b0)) ∧ w9 = w) := fun hw => ct_X8_worthOf hw hP hP10 hb0
              refine V_aload_n dX8_best_50 rfl ?_
              refine V_iload dX8_best_51 rfl ?_
              refine V_rdV (25) mw_X8_worthOf mv_X8_124 dX8_best_53 (ct_X8_worthOf hw hP hP10 (S := s) (by omega)) hw.p25 rfl rfl rfl (Nat.le_of_ble_eq_true rfl) (by decide) (by decide) (by decide) (by decide) ?_
              refine V_aload_n dX8_best_56 rfl ?_
              refine V_iload_n dX8_best_57 rfl ?_
              refine V_rdV (25) mw_X8_worthOf mv_X8_124 dX8_best_58 (hwb hw) hw.p25 rfl rfl rfl (Nat.le_of_ble_eq_true rfl) (by decide) (by decide) (by decide) (by decide) ?_
              refine V_icmp_le 70 dX8_best_61 (by decide) (fun h61 => ?_) (fun h61 => ?_)
              · skip
                refine V_iload dX8_best_70 rfl ?_
                refine V_iload_n dX8_best_72 rfl ?_
                refine V_ixor dX8_best_73 ?_
                refine V_iload dX8_best_74 rfl ?_
                refine V_iload_n dX8_best_76 rfl ?_
                refine V_ixor dX8_best_77 ?_
                refine V_ineg dX8_best_78 ?_
                refine V_iand dX8_best_79 ?_
                refine V_istore dX8_best_80 (by decide) ?_
                refine V_aload_n dX8_best_82 rfl ?_
                refine V_iload dX8_best_83 rfl ?_
                refine V_rdV (25) mw_X8_worthOf mv_X8_124 dX8_best_85 (ct_X8_worthOf hw hP hP10 (S := s) (by omega)) hw.p25 rfl rfl rfl (Nat.le_of_ble_eq_true rfl) (by decide) (by decide) (by decide) (by decide) ?_
                refine V_aload_n dX8_best_88 rfl ?_
                refine V_iload_n dX8_best_89 rfl ?_
                refine V_rdV (25) mw_X8_worthOf mv_X8_124 dX8_best_90 (hwb hw) hw.p25 rfl rfl rfl (Nat.le_of_ble_eq_true rfl) (by decide) (by decide) (by decide) (by decide) ?_
                refine V_icmp_ne 107 dX8_best_93 (by decide) (fun h93 => ?_) (fun h93 => ?_)
                · skip
                  refine V_iinc dX8_best_107 rfl rfl (by decide) ?_
                  refine V_goto 5 dX8_best_110 (by decide) ?_
                  have q1 : s &&& U = U := nI_inj1024 (Nat.lt_of_le_of_lt Nat.and_le_left (by omega)) hU (by rw [← nx_and]; exact h21)
                  have q2 : dif s M = 0 := nI_inj1024 (dif_lt (by omega)) (by decide) (by rw [← nx_dif]; exact h30)
                  have q3 := bI_1 h39
                  have c : mCand g nP nN nT U M s (some b0) = false := by simp [mCand, mBet, q1, q2, q3, h61, h93]
                  exact ih (s + 1) (some b0) _ _ _ (by omega) (by omega) rfl (nI_1 s) hb (by rw [hinv, mbL_step hs, if_neg (nb c)])
                · skip
                  refine V_iload dX8_best_96 rfl ?_
                  refine V_iload dX8_best_98 rfl ?_
                  refine V_iand dX8_best_100 ?_
                  refine V_if_eq 107 dX8_best_101 (by decide) (fun h101 => ?_) (fun h101 => ?_)
                  · skip
                    refine V_iinc dX8_best_107 rfl rfl (by decide) ?_
                    refine V_goto 5 dX8_best_110 (by decide) ?_
                    have q1 : s &&& U = U := nI_inj1024 (Nat.lt_of_le_of_lt Nat.and_le_left (by omega)) hU (by rw [← nx_and]; exact h21)
                    have q2 : dif s M = 0 := nI_inj1024 (dif_lt (by omega)) (by decide) (by rw [← nx_dif]; exact h30)
                    have q3 := bI_1 h39
                    have q6 : lowerB (nI s) (nI b0) = false := by rw [lowerB, decide_eq_true (show nI s &&& lowI (nI s ^^^ nI b0) = 0 from h101)]; rfl
                    have c : mCand g nP nN nT U M s (some b0) = false := by simp [mCand, mBet, q1, q2, q3, h61, h93, q6]
                    exact ih (s + 1) (some b0) _ _ _ (by omega) (by omega) rfl (nI_1 s) hb (by rw [hinv, mbL_step hs, if_neg (nb c)])
                  · skip
                    refine V_iload dX8_best_104 rfl ?_
                    refine V_istore_n dX8_best_106 (by decide) ?_
                    refine V_iinc dX8_best_107 rfl rfl (by decide) ?_
                    refine V_goto 5 dX8_best_110 (by decide) ?_
                    have q1 : s &&& U = U := nI_inj1024 (Nat.lt_of_le_of_lt Nat.and_le_left (by omega)) hU (by rw [← nx_and]; exact h21)
                    have q2 : dif s M = 0 := nI_inj1024 (dif_lt (by omega)) (by decide) (by rw [← nx_dif]; exact h30)
                    have q3 := bI_1 h39
                    have q6 : lowerB (nI s) (nI b0) = true := by rw [lowerB, decide_eq_false (show ¬ nI s &&& lowI (nI s ^^^ nI b0) = 0 from h101)]; rfl
                    have c : mCand g nP nN nT U M s (some b0) = true := by simp [mCand, mBet, q1, q2, q3, h61, h93, q6]
                    exact ih (s + 1) (some s) _ _ _ (by omega) (by omega) rfl (nI_1 s) (fun z h => by cases h; omega) (by rw [hinv, mbL_step hs, if_pos c])
              · skip
                refine V_iload dX8_best_64 rfl ?_
                refine V_istore_n dX8_best_66 (by decide) ?_
                refine V_goto 107 dX8_best_67 (by decide) ?_
                refine V_iinc dX8_best_107 rfl rfl (by decide) ?_
                refine V_goto 5 dX8_best_110 (by decide) ?_
                have q1 : s &&& U = U := nI_inj1024 (Nat.lt_of_le_of_lt Nat.and_le_left (by omega)) hU (by rw [← nx_and]; exact h21)
                have q2 : dif s M = 0 := nI_inj1024 (dif_lt (by omega)) (by decide) (by rw [← nx_dif]; exact h30)
                have q3 := bI_1 h39
                have c : mCand g nP nN nT U M s (some b0) = true := by simp [mCand, mBet, q1, q2, q3, h61]
                exact ih (s + 1) (some s) _ _ _ (by omega) (by omega) rfl (nI_1 s) (fun z h => by cases h; omega) (by rw [hinv, mbL_step hs, if_pos c])
          · skip
            refine V_goto 107 dX8_best_42 (by decide) ?_
            refine V_iinc dX8_best_107 rfl rfl (by decide) ?_
            refine V_goto 5 dX8_best_110 (by decide) ?_
            have q1 : s &&& U = U := nI_inj1024 (Nat.lt_of_le_of_lt Nat.and_le_left (by omega)) hU (by rw [← nx_and]; exact h21)
            have q2 : dif s M = 0 := nI_inj1024 (dif_lt (by omega)) (by decide) (by rw [← nx_dif]; exact h30)
            have q3 := bI_0 h39
            have c : mCand g nP nN nT U M s b = false := by simp [mCand, mBet, q1, q2, q3]
            exact ih (s + 1) b _ _ _ (by omega) (by omega) rfl (nI_1 s) hb (by rw [hinv, mbL_step hs, if_neg (nb c)])
set_option maxHeartbeats 4000000 in
set_option maxRecDepth 20000 in
theorem ct_X8_best (hw : WF E ad el g w0 ws) {nP : Nat} (hP : g 25 19 = nI nP) (hP10 : nP ≤ 10) {nN : Nat} (hN : g 25 20 = nI nN) (hN30 : nN ≤ 30) (hok : MNOK g nN) {nT : Nat} (hT : g 25 21 = nI nT) (hT12 : nT ≤ 12) {U M : Nat} (hU : U < 1024) (hM : M < 1024) : Ct E yX8_best cX8_best 6 (some (.int)) 4 0 0 [.ref (ad 25), .int (nI U), .int (nI M)] ws (fun r w => r = some (.int (sI (mBest g nP nN nT U M))) ∧ w = ws) := by
  refine Ct_of mw_X8_best rfl (Nat.le_of_ble_eq_true rfl) ?_
  refine V_iconst (v := -1) dX8_best_0 (by decide) ?_
  refine V_istore_n dX8_best_1 (by decide) ?_
  refine V_iconst (v := 0) dX8_best_2 (by decide) ?_
  refine V_istore dX8_best_3 (by decide) ?_
  exact lp_X8_best hw hP hP10 hN hN30 hok hT hT12 hU hM (2 ^ nP + 1) 0 none _ _ _ (Nat.zero_le _) (by omega) rfl rfl (fun _ h => by cases h) rfl
end MD1
end
section
/-! ===== the reference: its calls ===== -/
def mPart (g : Nat → Nat → Int32) (v : Int32) : Int32 × (Nat → Nat → Int32) := if g 25 25 = 0 then if g 25 19 = 10 then (-1, g) else if isInB v 0 1000 = true then (g 25 19 + 1 - 1, va_up (va_up (va_up (va_up g 26 (upd (g 26) (g 25 19).toNatClampNeg v)) 27 (upd (g 27) (g 25 19).toNatClampNeg (-1))) 29 (upd (g 29) (g 25 19).toNatClampNeg (-1))) 25 (upd (g 25) 19 (g 25 19 + 1))) else (-1, g) else (-1, g)
def mOffer (g : Nat → Nat → Int32) (p v u : Int32) : Int32 × (Nat → Nat → Int32) := if mIsPt g p = true then if isInB v 0 1000 = true then if isInB u 1 1000 = true then if g 25 25 = 0 then (if v = g 26 p.toNatClampNeg then (0, g) else (1, va_up (va_up g 27 (upd (g 27) p.toNatClampNeg v)) 28 (upd (g 28) p.toNatClampNeg u))) else (if v = mVer g p (g 25 24) then (0, g) else (1, va_up (va_up g 29 (upd (g 29) p.toNatClampNeg v)) 30 (upd (g 30) p.toNatClampNeg u))) else (0, g) else (0, g) else (0, g)
def mWithdraw (g : Nat → Nat → Int32) (p : Int32) : Int32 × (Nat → Nat → Int32) := if mIsPt g p = true then if g 25 25 = 0 then (if g 27 p.toNatClampNeg = -1 then (0, g) else (1, va_up g 27 (upd (g 27) p.toNatClampNeg (-1)))) else (if g 29 p.toNatClampNeg = -1 then (0, g) else (1, va_up g 29 (upd (g 29) p.toNatClampNeg (-1)))) else (0, g)
def mAddNeed (g : Nat → Nat → Int32) (p v o lo hi : Int32) : Nat → Nat → Int32 := va_up (va_up (va_up (va_up (va_up (va_up g 31 (upd (g 31) (g 25 20).toNatClampNeg p)) 32 (upd (g 32) (g 25 20).toNatClampNeg v)) 33 (upd (g 33) (g 25 20).toNatClampNeg o)) 34 (upd (g 34) (g 25 20).toNatClampNeg lo)) 35 (upd (g 35) (g 25 20).toNatClampNeg hi)) 25 (upd (g 25) 20 (g 25 20 + 1))
def mNeed (g : Nat → Nat → Int32) (p v o lo hi : Int32) : Int32 × (Nat → Nat → Int32) := if g 25 25 = 0 then if g 25 20 = 30 then (-1, g) else if mIsPt g p = true then if mIsPt g o = true then if p = o then (-1, g) else if isInB v 0 1000 = true then if isInB lo 0 1000 = true then if isInB hi lo 1000 = true then (g 25 20 + 1 - 1, mAddNeed g p v o lo hi) else (-1, g) else (-1, g) else (-1, g) else (-1, g) else (-1, g) else (-1, g)
def mTest (g : Nat → Nat → Int32) (set : Int32) : Int32 × (Nat → Nat → Int32) := if g 25 25 = 0 then if g 25 21 = 12 then (-1, g) else if mSetB g set = true then if set = 0 then (-1, g) else (g 25 21 + 1 - 1, va_up (va_up g 36 (upd (g 36) (g 25 21).toNatClampNeg set)) 25 (upd (g 25) 21 (g 25 21 + 1))) else (-1, g) else (-1, g)
def mFits (g : Nat → Nat → Int32) (nP nN : Nat) (set : Int32) : Int32 × (Nat → Nat → Int32) := if mSetB g set = true then if set &&& (nI (mOff g nP) ^^^ -1) = 0 then if mBrk g nN set = -1 then (1, g) else (0, g) else (-1, g) else (-1, g)
def mRedF (g : Nat → Nat → Int32) (nT : Nat) (set : Int32) : Int32 × (Nat → Nat → Int32) := if mSetB g set = true then (mRed g nT set, g) else (-1, g)
def mCutG (g : Nat → Nat → Int32) (c : Int32) : Nat → Nat → Int32 := va_up (va_up g 25 (upd (g 25) 24 c)) 25 (upd (upd (g 25) 24 c) 25 1)
def mCut (g : Nat → Nat → Int32) (nP nN nT : Nat) : Int32 × (Nat → Nat → Int32) := if g 25 25 = 0 then if sI (mBest g nP nN nT 0 (mOff g nP)) = -1 then (-1, g) else (sI (mBest g nP nN nT 0 (mOff g nP)), mCutG g (sI (mBest g nP nN nT 0 (mOff g nP)))) else (-1, g)
def mChosen (g : Nat → Nat → Int32) : Int32 × (Nat → Nat → Int32) := if g 25 25 = 0 then (-1, g) else (g 25 24, g)
def mWorthF (g : Nat → Nat → Int32) (nP : Nat) : Int32 × (Nat → Nat → Int32) := if g 25 25 = 0 then (-1, g) else (mSum g nP (g 25 24).toNatClampNeg, g)
abbrev orM (g : Nat → Nat → Int32) (p : Int32) : Int32 := g 25 24 ||| ((1 : Int32) <<< (p &&& 31))
def mWhy (g : Nat → Nat → Int32) (nN nT : Nat) (p : Int32) : Int32 × (Nat → Nat → Int32) := if g 25 25 = 0 then (-1, g) else if mIsPt g p = true then if g 27 p.toNatClampNeg = -1 then (-1, g) else if isOfB (g 25 24) p = true then (-1, g) else if mBrk g nN (orM g p) = -1 then (if mRed g nT (orM g p) = -1 then (0, g) else (200 + mRed g nT (orM g p), g)) else (100 + mBrk g nN (orM g p), g) else (-1, g)
def mMay (g : Nat → Nat → Int32) (p v u : Int32) : Bool := !decide (g 25 25 = 0) && (mIsPt g p && (isInB v 0 1000 && (isInB u 1 1000 && (!isOfB (g 25 24) p && !decide (v = g 26 p.toNatClampNeg)))))
def tryG (g : Nat → Nat → Int32) (p v u : Int32) : Nat → Nat → Int32 := va_up (va_up (va_up (va_up g 25 (upd (g 25) 26 (g 27 p.toNatClampNeg))) 25 (upd (upd (g 25) 26 (g 27 p.toNatClampNeg)) 27 (g 28 p.toNatClampNeg))) 27 (upd (g 27) p.toNatClampNeg v)) 28 (upd (g 28) p.toNatClampNeg u)
def untryG (g : Nat → Nat → Int32) (p : Int32) : Nat → Nat → Int32 := va_up (va_up g 27 (upd (g 27) p.toNatClampNeg (g 25 26))) 28 (upd (g 28) p.toNatClampNeg (g 25 27))
def mFix (g : Nat → Nat → Int32) (nP nN nT : Nat) (p v u : Int32) : Int32 × (Nat → Nat → Int32) := if mMay g p v u = true then if mGoes (tryG g p v u) nP nN nT (orM g p) = true then (1, va_up (tryG g p v u) 25 (upd ((tryG g p v u) 25) 24 (orM g p))) else (0, untryG (tryG g p v u) p) else (-1, g)
def mLvS (g : Nat → Nat → Int32) (nP nN nT : Nat) (p v u : Int32) : Option Nat := mBest (tryG g p v u) nP nN nT ((1 : Int32) <<< (p &&& 31)).toNatClampNeg (orM g p).toNatClampNeg
def mLeave (g : Nat → Nat → Int32) (nP nN nT : Nat) (p v u : Int32) : Int32 × (Nat → Nat → Int32) := if mMay g p v u = true then (if sI (mLvS g nP nN nT p v u) = -1 then -1 else g 25 24 &&& (sI (mLvS g nP nN nT p v u) ^^^ -1), untryG (tryG g p v u) p) else (-1, g)
/-- behind the cut the set chosen is a set -/
def MCOK (g : Nat → Nat → Int32) : Prop := ¬ g 25 25 = 0 → ∃ C : Nat, C < 1024 ∧ g 25 24 = nI C
theorem MNOK.to {g g' : Nat → Nat → Int32} {n : Nat} (h : MNOK g n) (h1 : g' 31 = g 31) (h2 : g' 33 = g 33) : MNOK g' n := fun k hk => by rw [h1, h2]; exact h k hk
theorem mMay_pt {g : Nat → Nat → Int32} {p v u : Int32} (h : mMay g p v u = true) : ¬ g 25 25 = 0 ∧ mIsPt g p = true := by
  simp only [mMay, Bool.and_eq_true, Bool.not_eq_true', decide_eq_false_iff_not] at h
  exact ⟨h.1, h.2.1⟩
theorem orM_set {g : Nat → Nat → Int32} {p v u : Int32} {nP : Nat} (hP : g 25 19 = nI nP) (hP10 : nP ≤ 10) (hC : MCOK g) (h : mMay g p v u = true) : ∃ j C, j < nP ∧ C < 1024 ∧ p = nI j ∧ g 25 24 = nI C ∧ orM g p = nI (C ||| 2 ^ j) ∧ (1 : Int32) <<< (p &&& 31) = nI (2 ^ j) := by
  obtain ⟨h1, h2⟩ := mMay_pt h
  obtain ⟨j, hj, rfl⟩ := mIsPt_in hP hP10 h2
  obtain ⟨C, hC1, hC2⟩ := hC h1
  exact ⟨j, C, hj, hC1, rfl, hC2, by rw [orM, hC2, shl1 j (by omega), nx_or], shl1 j (by omega)⟩
section MD2
variable {E : VE} {ad : Nat → Nat} {el : Nat} {g : Nat → Nat → Int32} {w0 ws : va_W}
set_option maxHeartbeats 4000000 in
set_option maxRecDepth 20000 in
theorem ct_X8_part (hw : Wd E ad el g ws) {nP : Nat} (hP : g 25 19 = nI nP) (hP10 : nP ≤ 10) (v : Int32) : Ct E yX8_part cX8_part 2 (some (.int)) 1 0 0 [.ref (ad 25), .int v] ws (fun r w => r = some (.int (mPart (T0 g) v).1) ∧ WF E ad el (mPart (T0 g) v).2 ws w) := by
  refine Ct_of mw_X8_part rfl (Nat.le_of_ble_eq_true rfl) ?_
  have hw := WF.rf hw
  refine V_aload_n dX8_part_0 rfl ?_
  refine V_iconst (v := 0) dX8_part_1 (by decide) ?_
  refine W_put (25) hw (by decide) fp_X8_71 dX8_part_2 rfl rfl rfl rfl (Nat.le_of_ble_eq_true rfl) (fun ws1 hw1 => ?_)
  have hw1 : WF E ad el (T0 g) ws ws1 := hw1
  refine V_aload_n dX8_part_5 rfl ?_
  refine V_get (25) fl_X8_78 dX8_part_6 hw1.p25 rfl ?_
  refine V_if_ne 32 dX8_part_9 (by decide) (fun h9 => ?_) (fun h9 => ?_)
  · skip
    refine V_iconst (v := -1) dX8_part_32 (by decide) ?_
    refine V_iret dX8_part_33 rfl (by decide) (by decide) ?_
    exact fin2 (by rw [mPart, if_neg h9]; try rfl) hw1
  · skip
    refine V_aload_n dX8_part_12 rfl ?_
    refine V_get (25) fl_X8_75 dX8_part_13 hw1.p25 rfl ?_
    refine V_bipush (v := 10) dX8_part_16 (by decide) ?_
    refine V_icmp_eq 32 dX8_part_18 (by decide) (fun h18 => ?_) (fun h18 => ?_)
    · skip
      refine V_iconst (v := -1) dX8_part_32 (by decide) ?_
      refine V_iret dX8_part_33 rfl (by decide) (by decide) ?_
      exact fin2 (by rw [mPart, if_pos h9, if_pos h18]; try rfl) hw1
    · skip
      refine V_iload_n dX8_part_21 rfl ?_
      refine V_iconst (v := 0) dX8_part_22 (by decide) ?_
      refine V_sipush (v := 1000) dX8_part_23 (by decide) ?_
      refine V_rdS mw_X8_isIn ms_X8_82 dX8_part_26 (ct_X8_isIn _ _ _) rfl rfl (Nat.le_of_ble_eq_true rfl) (by decide) (by decide) (by decide) (by decide) ?_
      refine V_if_ne 34 dX8_part_29 (by decide) (fun h29 => ?_) (fun h29 => ?_)
      · skip
        have hin : vp_in (T0 g 25 19) 10 := by
          rw [show T0 g 25 19 = nI nP from hP] at h18 ⊢
          exact vp_in_nI (Nat.lt_of_le_of_ne hP10 (fun z => h18 (by rw [z]; rfl))) (by decide)
        refine V_aload_n dX8_part_34 rfl ?_
        refine V_get (25) fl_X8_9 dX8_part_35 hw1.p25 rfl ?_
        refine V_aload_n dX8_part_38 rfl ?_
        refine V_get (25) fl_X8_75 dX8_part_39 hw1.p25 rfl ?_
        refine V_iload_n dX8_part_42 rfl ?_
        refine W_iast (26) hw1 (by decide) (fun _ => rfl) dX8_part_43 hin (fun ws2 hw2 => ?_)
        refine V_aload_n dX8_part_44 rfl ?_
        refine V_get (25) fl_X8_13 dX8_part_45 hw2.p25 rfl ?_
        refine V_aload_n dX8_part_48 rfl ?_
        refine V_get (25) fl_X8_75 dX8_part_49 hw2.p25 rfl ?_
        refine V_iconst (v := -1) dX8_part_52 (by decide) ?_
        refine W_iast (27) hw2 (by decide) (fun _ => rfl) dX8_part_53 hin (fun ws3 hw3 => ?_)
        refine V_aload_n dX8_part_54 rfl ?_
        refine V_get (25) fl_X8_19 dX8_part_55 hw3.p25 rfl ?_
        refine V_aload_n dX8_part_58 rfl ?_
        refine V_get (25) fl_X8_75 dX8_part_59 hw3.p25 rfl ?_
        refine V_iconst (v := -1) dX8_part_62 (by decide) ?_
        refine W_iast (29) hw3 (by decide) (fun _ => rfl) dX8_part_63 hin (fun ws4 hw4 => ?_)
        refine V_aload_n dX8_part_64 rfl ?_
        refine V_dup dX8_part_65 rfl ?_
        refine V_get (25) fl_X8_75 dX8_part_66 hw4.p25 rfl ?_
        refine V_iconst (v := 1) dX8_part_69 (by decide) ?_
        refine V_iadd dX8_part_70 ?_
        refine W_put (25) hw4 (by decide) fp_X8_75 dX8_part_71 rfl rfl rfl rfl (Nat.le_of_ble_eq_true rfl) (fun ws5 hw5 => ?_)
        refine V_aload_n dX8_part_74 rfl ?_
        refine V_get (25) fl_X8_75 dX8_part_75 hw5.p25 rfl ?_
        refine V_iconst (v := 1) dX8_part_78 (by decide) ?_
        refine V_isub dX8_part_79 ?_
        refine V_iret dX8_part_80 rfl (by decide) (by decide) ?_
        exact fin2 (by rw [mPart, if_pos h9, if_neg h18, if_pos (bI_1 h29)]; rfl) hw5
      · skip
        refine V_iconst (v := -1) dX8_part_32 (by decide) ?_
        refine V_iret dX8_part_33 rfl (by decide) (by decide) ?_
        exact fin2 (by rw [mPart, if_pos h9, if_neg h18, if_neg (nb (bI_0 h29))]; try rfl) hw1
set_option maxHeartbeats 4000000 in
set_option maxRecDepth 20000 in
theorem ct_X8_offer (hw : Wd E ad el g ws) {nP : Nat} (hP : g 25 19 = nI nP) (hP10 : nP ≤ 10) (p v u : Int32) : Ct E yX8_offer cX8_offer 4 (some (.boolean)) 1 0 0 [.ref (ad 25), .int p, .int v, .int u] ws (fun r w => r = some (.int (mOffer (T0 g) p v u).1) ∧ WF E ad el (mOffer (T0 g) p v u).2 ws w) := by
  refine Ct_of mw_X8_offer rfl (Nat.le_of_ble_eq_true rfl) ?_
  have hw := WF.rf hw
  refine V_aload_n dX8_offer_0 rfl ?_
  refine V_iconst (v := 0) dX8_offer_1 (by decide) ?_
  refine W_put (25) hw (by decide) fp_X8_71 dX8_offer_2 rfl rfl rfl rfl (Nat.le_of_ble_eq_true rfl) (fun ws1 hw1 => ?_)
  have hw1 : WF E ad el (T0 g) ws ws1 := hw1
  refine V_aload_n dX8_offer_5 rfl ?_
  refine V_iload_n dX8_offer_6 rfl ?_
  refine V_rdV (25) mw_X8_isPart mv_X8_86 dX8_offer_7 (ct_X8_isPart hw1 p) hw1.p25 rfl rfl rfl (Nat.le_of_ble_eq_true rfl) (by decide) (by decide) (by decide) (by decide) ?_
  refine V_if_eq 35 dX8_offer_10 (by decide) (fun h10 => ?_) (fun h10 => ?_)
  · skip
    refine V_iconst (v := 0) dX8_offer_35 (by decide) ?_
    refine V_zret dX8_offer_36 rfl (by first | exact Or.inl rfl | exact Or.inr rfl) (by decide) (by decide) ?_
    exact fin2 (by rw [mOffer, if_neg (nb (bI_0 h10))]; try rfl) hw1
  · skip
    refine V_iload_n dX8_offer_13 rfl ?_
    refine V_iconst (v := 0) dX8_offer_14 (by decide) ?_
    refine V_sipush (v := 1000) dX8_offer_15 (by decide) ?_
    refine V_rdS mw_X8_isIn ms_X8_82 dX8_offer_18 (ct_X8_isIn _ _ _) rfl rfl (Nat.le_of_ble_eq_true rfl) (by decide) (by decide) (by decide) (by decide) ?_
    refine V_if_eq 35 dX8_offer_21 (by decide) (fun h21 => ?_) (fun h21 => ?_)
    · skip
      refine V_iconst (v := 0) dX8_offer_35 (by decide) ?_
      refine V_zret dX8_offer_36 rfl (by first | exact Or.inl rfl | exact Or.inr rfl) (by decide) (by decide) ?_
      exact fin2 (by rw [mOffer, if_pos (bI_1 h10), if_neg (nb (bI_0 h21))]; try rfl) hw1
    · skip
      refine V_iload_n dX8_offer_24 rfl ?_
      refine V_iconst (v := 1) dX8_offer_25 (by decide) ?_
      refine V_sipush (v := 1000) dX8_offer_26 (by decide) ?_
      refine V_rdS mw_X8_isIn ms_X8_82 dX8_offer_29 (ct_X8_isIn _ _ _) rfl rfl (Nat.le_of_ble_eq_true rfl) (by decide) (by decide) (by decide) (by decide) ?_
      refine V_if_ne 37 dX8_offer_32 (by decide) (fun h32 => ?_) (fun h32 => ?_)
      · skip
        refine V_aload_n dX8_offer_37 rfl ?_
        refine V_get (25) fl_X8_78 dX8_offer_38 hw1.p25 rfl ?_
        refine V_if_ne 72 dX8_offer_41 (by decide) (fun h41 => ?_) (fun h41 => ?_)
        · skip
          refine V_iload_n dX8_offer_72 rfl ?_
          refine V_aload_n dX8_offer_73 rfl ?_
          refine V_get (25) fl_X8_90 dX8_offer_74 hw1.p25 rfl ?_
          refine V_iload_n dX8_offer_77 rfl ?_
          refine V_rdS mw_X8_isOf ms_X8_93 dX8_offer_78 (ct_X8_isOf _ _) rfl rfl (Nat.le_of_ble_eq_true rfl) (by decide) (by decide) (by decide) (by decide) ?_
          refine V_if_eq 93 dX8_offer_81 (by decide) (fun h81 => ?_) (fun h81 => ?_)
          · skip
            refine V_aload_n dX8_offer_93 rfl ?_
            refine V_get (25) fl_X8_9 dX8_offer_94 hw1.p25 rfl ?_
            refine V_iload_n dX8_offer_97 rfl ?_
            refine V_iald (26) dX8_offer_98 hw1.p26 (by obtain ⟨j, hj, rfl⟩ := mIsPt_in (g := T0 g) hP hP10 (bI_1 h10); exact vp_in_nI (by omega) (by decide)) ?_
            refine V_icmp_ne 104 dX8_offer_99 (by decide) (fun h99 => ?_) (fun h99 => ?_)
            · skip
              refine V_aload_n dX8_offer_104 rfl ?_
              refine V_get (25) fl_X8_19 dX8_offer_105 hw1.p25 rfl ?_
              refine V_iload_n dX8_offer_108 rfl ?_
              refine V_iload_n dX8_offer_109 rfl ?_
              refine W_iast (29) hw1 (by decide) (fun _ => rfl) dX8_offer_110 (by obtain ⟨j, hj, rfl⟩ := mIsPt_in (g := T0 g) hP hP10 (bI_1 h10); exact vp_in_nI (by omega) (by decide)) (fun ws2 hw2 => ?_)
              refine V_aload_n dX8_offer_111 rfl ?_
              refine V_get (25) fl_X8_22 dX8_offer_112 hw2.p25 rfl ?_
              refine V_iload_n dX8_offer_115 rfl ?_
              refine V_iload_n dX8_offer_116 rfl ?_
              refine W_iast (30) hw2 (by decide) (fun _ => rfl) dX8_offer_117 (by obtain ⟨j, hj, rfl⟩ := mIsPt_in (g := T0 g) hP hP10 (bI_1 h10); exact vp_in_nI (by omega) (by decide)) (fun ws3 hw3 => ?_)
              refine V_iconst (v := 1) dX8_offer_118 (by decide) ?_
              refine V_zret dX8_offer_119 rfl (by first | exact Or.inl rfl | exact Or.inr rfl) (by decide) (by decide) ?_
              have e : mVer (T0 g) p (T0 g 25 24) = T0 g 26 p.toNatClampNeg := by rw [mVer, if_neg (nb (bI_0 h81))]
              exact fin2 (by rw [mOffer, if_pos (bI_1 h10), if_pos (bI_1 h21), if_pos (bI_1 h32), if_neg h41, e, if_neg h99]; try rfl) hw3
            · skip
              refine V_iconst (v := 0) dX8_offer_102 (by decide) ?_
              refine V_zret dX8_offer_103 rfl (by first | exact Or.inl rfl | exact Or.inr rfl) (by decide) (by decide) ?_
              have e : mVer (T0 g) p (T0 g 25 24) = T0 g 26 p.toNatClampNeg := by rw [mVer, if_neg (nb (bI_0 h81))]
              exact fin2 (by rw [mOffer, if_pos (bI_1 h10), if_pos (bI_1 h21), if_pos (bI_1 h32), if_neg h41, e, if_pos h99]; try rfl) hw1
          · skip
            refine V_aload_n dX8_offer_84 rfl ?_
            refine V_get (25) fl_X8_13 dX8_offer_85 hw1.p25 rfl ?_
            refine V_iload_n dX8_offer_88 rfl ?_
            refine V_iald (27) dX8_offer_89 hw1.p27 (by obtain ⟨j, hj, rfl⟩ := mIsPt_in (g := T0 g) hP hP10 (bI_1 h10); exact vp_in_nI (by omega) (by decide)) ?_
            refine V_goto 99 dX8_offer_90 (by decide) ?_
            refine V_icmp_ne 104 dX8_offer_99 (by decide) (fun h99 => ?_) (fun h99 => ?_)
            · skip
              refine V_aload_n dX8_offer_104 rfl ?_
              refine V_get (25) fl_X8_19 dX8_offer_105 hw1.p25 rfl ?_
              refine V_iload_n dX8_offer_108 rfl ?_
              refine V_iload_n dX8_offer_109 rfl ?_
              refine W_iast (29) hw1 (by decide) (fun _ => rfl) dX8_offer_110 (by obtain ⟨j, hj, rfl⟩ := mIsPt_in (g := T0 g) hP hP10 (bI_1 h10); exact vp_in_nI (by omega) (by decide)) (fun ws2 hw2 => ?_)
              refine V_aload_n dX8_offer_111 rfl ?_
              refine V_get (25) fl_X8_22 dX8_offer_112 hw2.p25 rfl ?_
              refine V_iload_n dX8_offer_115 rfl ?_
              refine V_iload_n dX8_offer_116 rfl ?_
              refine W_iast (30) hw2 (by decide) (fun _ => rfl) dX8_offer_117 (by obtain ⟨j, hj, rfl⟩ := mIsPt_in (g := T0 g) hP hP10 (bI_1 h10); exact vp_in_nI (by omega) (by decide)) (fun ws3 hw3 => ?_)
              refine V_iconst (v := 1) dX8_offer_118 (by decide) ?_
              refine V_zret dX8_offer_119 rfl (by first | exact Or.inl rfl | exact Or.inr rfl) (by decide) (by decide) ?_
              have e : mVer (T0 g) p (T0 g 25 24) = T0 g 27 p.toNatClampNeg := by rw [mVer, if_pos (bI_1 h81)]
              exact fin2 (by rw [mOffer, if_pos (bI_1 h10), if_pos (bI_1 h21), if_pos (bI_1 h32), if_neg h41, e, if_neg h99]; try rfl) hw3
            · skip
              refine V_iconst (v := 0) dX8_offer_102 (by decide) ?_
              refine V_zret dX8_offer_103 rfl (by first | exact Or.inl rfl | exact Or.inr rfl) (by decide) (by decide) ?_
              have e : mVer (T0 g) p (T0 g 25 24) = T0 g 27 p.toNatClampNeg := by rw [mVer, if_pos (bI_1 h81)]
              exact fin2 (by rw [mOffer, if_pos (bI_1 h10), if_pos (bI_1 h21), if_pos (bI_1 h32), if_neg h41, e, if_pos h99]; try rfl) hw1
        · skip
          refine V_iload_n dX8_offer_44 rfl ?_
          refine V_aload_n dX8_offer_45 rfl ?_
          refine V_get (25) fl_X8_9 dX8_offer_46 hw1.p25 rfl ?_
          refine V_iload_n dX8_offer_49 rfl ?_
          refine V_iald (26) dX8_offer_50 hw1.p26 (by obtain ⟨j, hj, rfl⟩ := mIsPt_in (g := T0 g) hP hP10 (bI_1 h10); exact vp_in_nI (by omega) (by decide)) ?_
          refine V_icmp_ne 56 dX8_offer_51 (by decide) (fun h51 => ?_) (fun h51 => ?_)
          · skip
            refine V_aload_n dX8_offer_56 rfl ?_
            refine V_get (25) fl_X8_13 dX8_offer_57 hw1.p25 rfl ?_
            refine V_iload_n dX8_offer_60 rfl ?_
            refine V_iload_n dX8_offer_61 rfl ?_
            refine W_iast (27) hw1 (by decide) (fun _ => rfl) dX8_offer_62 (by obtain ⟨j, hj, rfl⟩ := mIsPt_in (g := T0 g) hP hP10 (bI_1 h10); exact vp_in_nI (by omega) (by decide)) (fun ws2 hw2 => ?_)
            refine V_aload_n dX8_offer_63 rfl ?_
            refine V_get (25) fl_X8_16 dX8_offer_64 hw2.p25 rfl ?_
            refine V_iload_n dX8_offer_67 rfl ?_
            refine V_iload_n dX8_offer_68 rfl ?_
            refine W_iast (28) hw2 (by decide) (fun _ => rfl) dX8_offer_69 (by obtain ⟨j, hj, rfl⟩ := mIsPt_in (g := T0 g) hP hP10 (bI_1 h10); exact vp_in_nI (by omega) (by decide)) (fun ws3 hw3 => ?_)
            refine V_iconst (v := 1) dX8_offer_70 (by decide) ?_
            refine V_zret dX8_offer_71 rfl (by first | exact Or.inl rfl | exact Or.inr rfl) (by decide) (by decide) ?_
            exact fin2 (by rw [mOffer, if_pos (bI_1 h10), if_pos (bI_1 h21), if_pos (bI_1 h32), if_pos h41, if_neg h51]; try rfl) hw3
          · skip
            refine V_iconst (v := 0) dX8_offer_54 (by decide) ?_
            refine V_zret dX8_offer_55 rfl (by first | exact Or.inl rfl | exact Or.inr rfl) (by decide) (by decide) ?_
            exact fin2 (by rw [mOffer, if_pos (bI_1 h10), if_pos (bI_1 h21), if_pos (bI_1 h32), if_pos h41, if_pos h51]; try rfl) hw1
      · skip
        refine V_iconst (v := 0) dX8_offer_35 (by decide) ?_
        refine V_zret dX8_offer_36 rfl (by first | exact Or.inl rfl | exact Or.inr rfl) (by decide) (by decide) ?_
        exact fin2 (by rw [mOffer, if_pos (bI_1 h10), if_pos (bI_1 h21), if_neg (nb (bI_0 h32))]; try rfl) hw1
set_option maxHeartbeats 4000000 in
set_option maxRecDepth 20000 in
theorem ct_X8_withdraw (hw : Wd E ad el g ws) {nP : Nat} (hP : g 25 19 = nI nP) (hP10 : nP ≤ 10) (p : Int32) : Ct E yX8_withdraw cX8_withdraw 2 (some (.boolean)) 1 0 0 [.ref (ad 25), .int p] ws (fun r w => r = some (.int (mWithdraw (T0 g) p).1) ∧ WF E ad el (mWithdraw (T0 g) p).2 ws w) := by
  refine Ct_of mw_X8_withdraw rfl (Nat.le_of_ble_eq_true rfl) ?_
  have hw := WF.rf hw
  refine V_aload_n dX8_withdraw_0 rfl ?_
  refine V_iconst (v := 0) dX8_withdraw_1 (by decide) ?_
  refine W_put (25) hw (by decide) fp_X8_71 dX8_withdraw_2 rfl rfl rfl rfl (Nat.le_of_ble_eq_true rfl) (fun ws1 hw1 => ?_)
  have hw1 : WF E ad el (T0 g) ws ws1 := hw1
  refine V_aload_n dX8_withdraw_5 rfl ?_
  refine V_iload_n dX8_withdraw_6 rfl ?_
  refine V_rdV (25) mw_X8_isPart mv_X8_86 dX8_withdraw_7 (ct_X8_isPart hw1 p) hw1.p25 rfl rfl rfl (Nat.le_of_ble_eq_true rfl) (by decide) (by decide) (by decide) (by decide) ?_
  refine V_if_eq 39 dX8_withdraw_10 (by decide) (fun h10 => ?_) (fun h10 => ?_)
  · skip
    refine V_iconst (v := 0) dX8_withdraw_39 (by decide) ?_
    refine V_zret dX8_withdraw_40 rfl (by first | exact Or.inl rfl | exact Or.inr rfl) (by decide) (by decide) ?_
    exact fin2 (by rw [mWithdraw, if_neg (nb (bI_0 h10))]; try rfl) hw1
  · skip
    refine V_aload_n dX8_withdraw_13 rfl ?_
    refine V_get (25) fl_X8_78 dX8_withdraw_14 hw1.p25 rfl ?_
    refine V_if_eq 29 dX8_withdraw_17 (by decide) (fun h17 => ?_) (fun h17 => ?_)
    · skip
      refine V_aload_n dX8_withdraw_29 rfl ?_
      refine V_get (25) fl_X8_13 dX8_withdraw_30 hw1.p25 rfl ?_
      refine V_iload_n dX8_withdraw_33 rfl ?_
      refine V_iald (27) dX8_withdraw_34 hw1.p27 (by obtain ⟨j, hj, rfl⟩ := mIsPt_in (g := T0 g) hP hP10 (bI_1 h10); exact vp_in_nI (by omega) (by decide)) ?_
      refine V_iconst (v := -1) dX8_withdraw_35 (by decide) ?_
      refine V_icmp_ne 41 dX8_withdraw_36 (by decide) (fun h36 => ?_) (fun h36 => ?_)
      · skip
        refine V_aload_n dX8_withdraw_41 rfl ?_
        refine V_get (25) fl_X8_78 dX8_withdraw_42 hw1.p25 rfl ?_
        refine V_if_eq 58 dX8_withdraw_45 (by decide) (fun h45 => ?_) (fun h45 => absurd h17 h45)
        refine V_aload_n dX8_withdraw_58 rfl ?_
        refine V_get (25) fl_X8_13 dX8_withdraw_59 hw1.p25 rfl ?_
        refine V_iload_n dX8_withdraw_62 rfl ?_
        refine V_iconst (v := -1) dX8_withdraw_63 (by decide) ?_
        refine W_iast (27) hw1 (by decide) (fun _ => rfl) dX8_withdraw_64 (by obtain ⟨j, hj, rfl⟩ := mIsPt_in (g := T0 g) hP hP10 (bI_1 h10); exact vp_in_nI (by omega) (by decide)) (fun ws2 hw2 => ?_)
        refine V_iconst (v := 1) dX8_withdraw_65 (by decide) ?_
        refine V_zret dX8_withdraw_66 rfl (by first | exact Or.inl rfl | exact Or.inr rfl) (by decide) (by decide) ?_
        exact fin2 (by rw [mWithdraw, if_pos (bI_1 h10), if_pos h17, if_neg h36]; try rfl) hw2
      · skip
        refine V_iconst (v := 0) dX8_withdraw_39 (by decide) ?_
        refine V_zret dX8_withdraw_40 rfl (by first | exact Or.inl rfl | exact Or.inr rfl) (by decide) (by decide) ?_
        exact fin2 (by rw [mWithdraw, if_pos (bI_1 h10), if_pos h17, if_pos h36]; try rfl) hw1
    · skip
      refine V_aload_n dX8_withdraw_20 rfl ?_
      refine V_get (25) fl_X8_19 dX8_withdraw_21 hw1.p25 rfl ?_
      refine V_iload_n dX8_withdraw_24 rfl ?_
      refine V_iald (29) dX8_withdraw_25 hw1.p29 (by obtain ⟨j, hj, rfl⟩ := mIsPt_in (g := T0 g) hP hP10 (bI_1 h10); exact vp_in_nI (by omega) (by decide)) ?_
      refine V_goto 35 dX8_withdraw_26 (by decide) ?_
      refine V_iconst (v := -1) dX8_withdraw_35 (by decide) ?_
      refine V_icmp_ne 41 dX8_withdraw_36 (by decide) (fun h36 => ?_) (fun h36 => ?_)
      · skip
        refine V_aload_n dX8_withdraw_41 rfl ?_
        refine V_get (25) fl_X8_78 dX8_withdraw_42 hw1.p25 rfl ?_
        refine V_if_eq 58 dX8_withdraw_45 (by decide) (fun h45 => absurd h45 h17) (fun h45 => ?_)
        refine V_aload_n dX8_withdraw_48 rfl ?_
        refine V_get (25) fl_X8_19 dX8_withdraw_49 hw1.p25 rfl ?_
        refine V_iload_n dX8_withdraw_52 rfl ?_
        refine V_iconst (v := -1) dX8_withdraw_53 (by decide) ?_
        refine W_iast (29) hw1 (by decide) (fun _ => rfl) dX8_withdraw_54 (by obtain ⟨j, hj, rfl⟩ := mIsPt_in (g := T0 g) hP hP10 (bI_1 h10); exact vp_in_nI (by omega) (by decide)) (fun ws2 hw2 => ?_)
        refine V_goto 65 dX8_withdraw_55 (by decide) ?_
        refine V_iconst (v := 1) dX8_withdraw_65 (by decide) ?_
        refine V_zret dX8_withdraw_66 rfl (by first | exact Or.inl rfl | exact Or.inr rfl) (by decide) (by decide) ?_
        exact fin2 (by rw [mWithdraw, if_pos (bI_1 h10), if_neg h17, if_neg h36]; try rfl) hw2
      · skip
        refine V_iconst (v := 0) dX8_withdraw_39 (by decide) ?_
        refine V_zret dX8_withdraw_40 rfl (by first | exact Or.inl rfl | exact Or.inr rfl) (by decide) (by decide) ?_
        exact fin2 (by rw [mWithdraw, if_pos (bI_1 h10), if_neg h17, if_pos h36]; try rfl) hw1
set_option maxHeartbeats 4000000 in
set_option maxRecDepth 20000 in
theorem ct_X8_need (hw : Wd E ad el g ws) {nN : Nat} (hN : g 25 20 = nI nN) (hN30 : nN ≤ 30) (p v o lo hi : Int32) : Ct E yX8_need cX8_need 6 (some (.int)) 1 0 0 [.ref (ad 25), .int p, .int v, .int o, .int lo, .int hi] ws (fun r w => r = some (.int (mNeed (T0 g) p v o lo hi).1) ∧ WF E ad el (mNeed (T0 g) p v o lo hi).2 ws w) := by
  refine Ct_of mw_X8_need rfl (Nat.le_of_ble_eq_true rfl) ?_
  have hw := WF.rf hw
  refine V_aload_n dX8_need_0 rfl ?_
  refine V_iconst (v := 0) dX8_need_1 (by decide) ?_
  refine W_put (25) hw (by decide) fp_X8_71 dX8_need_2 rfl rfl rfl rfl (Nat.le_of_ble_eq_true rfl) (fun ws1 hw1 => ?_)
  have hw1 : WF E ad el (T0 g) ws ws1 := hw1
  refine V_aload_n dX8_need_5 rfl ?_
  refine V_get (25) fl_X8_78 dX8_need_6 hw1.p25 rfl ?_
  refine V_if_ne 78 dX8_need_9 (by decide) (fun h9 => ?_) (fun h9 => ?_)
  · skip
    refine V_iconst (v := -1) dX8_need_78 (by decide) ?_
    refine V_iret dX8_need_79 rfl (by decide) (by decide) ?_
    exact fin2 (by rw [mNeed, if_neg h9]; try rfl) hw1
  · skip
    refine V_aload_n dX8_need_12 rfl ?_
    refine V_get (25) fl_X8_97 dX8_need_13 hw1.p25 rfl ?_
    refine V_bipush (v := 30) dX8_need_16 (by decide) ?_
    refine V_icmp_eq 78 dX8_need_18 (by decide) (fun h18 => ?_) (fun h18 => ?_)
    · skip
      refine V_iconst (v := -1) dX8_need_78 (by decide) ?_
      refine V_iret dX8_need_79 rfl (by decide) (by decide) ?_
      exact fin2 (by rw [mNeed, if_pos h9, if_pos h18]; try rfl) hw1
    · skip
      refine V_aload_n dX8_need_21 rfl ?_
      refine V_iload_n dX8_need_22 rfl ?_
      refine V_rdV (25) mw_X8_isPart mv_X8_86 dX8_need_23 (ct_X8_isPart hw1 p) hw1.p25 rfl rfl rfl (Nat.le_of_ble_eq_true rfl) (by decide) (by decide) (by decide) (by decide) ?_
      refine V_if_eq 78 dX8_need_26 (by decide) (fun h26 => ?_) (fun h26 => ?_)
      · skip
        refine V_iconst (v := -1) dX8_need_78 (by decide) ?_
        refine V_iret dX8_need_79 rfl (by decide) (by decide) ?_
        exact fin2 (by rw [mNeed, if_pos h9, if_neg h18, if_neg (nb (bI_0 h26))]; try rfl) hw1
      · skip
        refine V_aload_n dX8_need_29 rfl ?_
        refine V_iload_n dX8_need_30 rfl ?_
        refine V_rdV (25) mw_X8_isPart mv_X8_86 dX8_need_31 (ct_X8_isPart hw1 o) hw1.p25 rfl rfl rfl (Nat.le_of_ble_eq_true rfl) (by decide) (by decide) (by decide) (by decide) ?_
        refine V_if_eq 78 dX8_need_34 (by decide) (fun h34 => ?_) (fun h34 => ?_)
        · skip
          refine V_iconst (v := -1) dX8_need_78 (by decide) ?_
          refine V_iret dX8_need_79 rfl (by decide) (by decide) ?_
          exact fin2 (by rw [mNeed, if_pos h9, if_neg h18, if_pos (bI_1 h26), if_neg (nb (bI_0 h34))]; try rfl) hw1
        · skip
          refine V_iload_n dX8_need_37 rfl ?_
          refine V_iload_n dX8_need_38 rfl ?_
          refine V_icmp_eq 78 dX8_need_39 (by decide) (fun h39 => ?_) (fun h39 => ?_)
          · skip
            refine V_iconst (v := -1) dX8_need_78 (by decide) ?_
            refine V_iret dX8_need_79 rfl (by decide) (by decide) ?_
            exact fin2 (by rw [mNeed, if_pos h9, if_neg h18, if_pos (bI_1 h26), if_pos (bI_1 h34), if_pos h39]; try rfl) hw1
          · skip
            refine V_iload_n dX8_need_42 rfl ?_
            refine V_iconst (v := 0) dX8_need_43 (by decide) ?_
            refine V_sipush (v := 1000) dX8_need_44 (by decide) ?_
            refine V_rdS mw_X8_isIn ms_X8_82 dX8_need_47 (ct_X8_isIn _ _ _) rfl rfl (Nat.le_of_ble_eq_true rfl) (by decide) (by decide) (by decide) (by decide) ?_
            refine V_if_eq 78 dX8_need_50 (by decide) (fun h50 => ?_) (fun h50 => ?_)
            · skip
              refine V_iconst (v := -1) dX8_need_78 (by decide) ?_
              refine V_iret dX8_need_79 rfl (by decide) (by decide) ?_
              exact fin2 (by rw [mNeed, if_pos h9, if_neg h18, if_pos (bI_1 h26), if_pos (bI_1 h34), if_neg h39, if_neg (nb (bI_0 h50))]; try rfl) hw1
            · skip
              refine V_iload dX8_need_53 rfl ?_
              refine V_iconst (v := 0) dX8_need_55 (by decide) ?_
              refine V_sipush (v := 1000) dX8_need_56 (by decide) ?_
              refine V_rdS mw_X8_isIn ms_X8_82 dX8_need_59 (ct_X8_isIn _ _ _) rfl rfl (Nat.le_of_ble_eq_true rfl) (by decide) (by decide) (by decide) (by decide) ?_
              refine V_if_eq 78 dX8_need_62 (by decide) (fun h62 => ?_) (fun h62 => ?_)
              · skip
                refine V_iconst (v := -1) dX8_need_78 (by decide) ?_
                refine V_iret dX8_need_79 rfl (by decide) (by decide) ?_
                exact fin2 (by rw [mNeed, if_pos h9, if_neg h18, if_pos (bI_1 h26), if_pos (bI_1 h34), if_neg h39, if_pos (bI_1 h50), if_neg (nb (bI_0 h62))]; try rfl) hw1
              · skip
                refine V_iload dX8_need_65 rfl ?_
                refine V_iload dX8_need_67 rfl ?_
                refine V_sipush (v := 1000) dX8_need_69 (by decide) ?_
                refine V_rdS mw_X8_isIn ms_X8_82 dX8_need_72 (ct_X8_isIn _ _ _) rfl rfl (Nat.le_of_ble_eq_true rfl) (by decide) (by decide) (by decide) (by decide) ?_
                refine V_if_ne 80 dX8_need_75 (by decide) (fun h75 => ?_) (fun h75 => ?_)
                · skip
                  have hin : vp_in (T0 g 25 20) 30 := by
                    rw [show T0 g 25 20 = nI nN from hN] at h18 ⊢
                    exact vp_in_nI (Nat.lt_of_le_of_ne hN30 (fun z => h18 (by rw [z]; rfl))) (by decide)
                  refine V_aload_n dX8_need_80 rfl ?_
                  refine V_get (25) fl_X8_25 dX8_need_81 hw1.p25 rfl ?_
                  refine V_aload_n dX8_need_84 rfl ?_
                  refine V_get (25) fl_X8_97 dX8_need_85 hw1.p25 rfl ?_
                  refine V_iload_n dX8_need_88 rfl ?_
                  refine W_iast (31) hw1 (by decide) (fun _ => rfl) dX8_need_89 hin (fun ws2 hw2 => ?_)
                  refine V_aload_n dX8_need_90 rfl ?_
                  refine V_get (25) fl_X8_28 dX8_need_91 hw2.p25 rfl ?_
                  refine V_aload_n dX8_need_94 rfl ?_
                  refine V_get (25) fl_X8_97 dX8_need_95 hw2.p25 rfl ?_
                  refine V_iload_n dX8_need_98 rfl ?_
                  refine W_iast (32) hw2 (by decide) (fun _ => rfl) dX8_need_99 hin (fun ws3 hw3 => ?_)
                  refine V_aload_n dX8_need_100 rfl ?_
                  refine V_get (25) fl_X8_31 dX8_need_101 hw3.p25 rfl ?_
                  refine V_aload_n dX8_need_104 rfl ?_
                  refine V_get (25) fl_X8_97 dX8_need_105 hw3.p25 rfl ?_
                  refine V_iload_n dX8_need_108 rfl ?_
                  refine W_iast (33) hw3 (by decide) (fun _ => rfl) dX8_need_109 hin (fun ws4 hw4 => ?_)
                  refine V_aload_n dX8_need_110 rfl ?_
                  refine V_get (25) fl_X8_34 dX8_need_111 hw4.p25 rfl ?_
                  refine V_aload_n dX8_need_114 rfl ?_
                  refine V_get (25) fl_X8_97 dX8_need_115 hw4.p25 rfl ?_
                  refine V_iload dX8_need_118 rfl ?_
                  refine W_iast (34) hw4 (by decide) (fun _ => rfl) dX8_need_120 hin (fun ws5 hw5 => ?_)
                  refine V_aload_n dX8_need_121 rfl ?_
                  refine V_get (25) fl_X8_37 dX8_need_122 hw5.p25 rfl ?_
                  refine V_aload_n dX8_need_125 rfl ?_
                  refine V_get (25) fl_X8_97 dX8_need_126 hw5.p25 rfl ?_
                  refine V_iload dX8_need_129 rfl ?_
                  refine W_iast (35) hw5 (by decide) (fun _ => rfl) dX8_need_131 hin (fun ws6 hw6 => ?_)
                  refine V_aload_n dX8_need_132 rfl ?_
                  refine V_dup dX8_need_133 rfl ?_
                  refine V_get (25) fl_X8_97 dX8_need_134 hw6.p25 rfl ?_
                  refine V_iconst (v := 1) dX8_need_137 (by decide) ?_
                  refine V_iadd dX8_need_138 ?_
                  refine W_put (25) hw6 (by decide) fp_X8_97 dX8_need_139 rfl rfl rfl rfl (Nat.le_of_ble_eq_true rfl) (fun ws7 hw7 => ?_)
                  refine V_aload_n dX8_need_142 rfl ?_
                  refine V_get (25) fl_X8_97 dX8_need_143 hw7.p25 rfl ?_
                  refine V_iconst (v := 1) dX8_need_146 (by decide) ?_
                  refine V_isub dX8_need_147 ?_
                  refine V_iret dX8_need_148 rfl (by decide) (by decide) ?_
                  exact fin2 (by rw [mNeed, if_pos h9, if_neg h18, if_pos (bI_1 h26), if_pos (bI_1 h34), if_neg h39, if_pos (bI_1 h50), if_pos (bI_1 h62), if_pos (bI_1 h75)]; rfl) hw7
                · skip
                  refine V_iconst (v := -1) dX8_need_78 (by decide) ?_
                  refine V_iret dX8_need_79 rfl (by decide) (by decide) ?_
                  exact fin2 (by rw [mNeed, if_pos h9, if_neg h18, if_pos (bI_1 h26), if_pos (bI_1 h34), if_neg h39, if_pos (bI_1 h50), if_pos (bI_1 h62), if_neg (nb (bI_0 h75))]; try rfl) hw1
set_option maxHeartbeats 4000000 in
set_option maxRecDepth 20000 in
theorem ct_X8_test (hw : Wd E ad el g ws) {nT : Nat} (hT : g 25 21 = nI nT) (hT12 : nT ≤ 12) (set : Int32) : Ct E yX8_test cX8_test 2 (some (.int)) 2 0 0 [.ref (ad 25), .int set] ws (fun r w => r = some (.int (mTest (T0 g) set).1) ∧ WF E ad el (mTest (T0 g) set).2 ws w) := by
  refine Ct_of mw_X8_test rfl (Nat.le_of_ble_eq_true rfl) ?_
  have hw := WF.rf hw
  refine V_aload_n dX8_test_0 rfl ?_
  refine V_iconst (v := 0) dX8_test_1 (by decide) ?_
  refine W_put (25) hw (by decide) fp_X8_71 dX8_test_2 rfl rfl rfl rfl (Nat.le_of_ble_eq_true rfl) (fun ws1 hw1 => ?_)
  have hw1 : WF E ad el (T0 g) ws ws1 := hw1
  refine V_aload_n dX8_test_5 rfl ?_
  refine V_get (25) fl_X8_78 dX8_test_6 hw1.p25 rfl ?_
  refine V_if_ne 33 dX8_test_9 (by decide) (fun h9 => ?_) (fun h9 => ?_)
  · skip
    refine V_iconst (v := -1) dX8_test_33 (by decide) ?_
    refine V_iret dX8_test_34 rfl (by decide) (by decide) ?_
    exact fin2 (by rw [mTest, if_neg h9]; try rfl) hw1
  · skip
    refine V_aload_n dX8_test_12 rfl ?_
    refine V_get (25) fl_X8_100 dX8_test_13 hw1.p25 rfl ?_
    refine V_bipush (v := 12) dX8_test_16 (by decide) ?_
    refine V_icmp_eq 33 dX8_test_18 (by decide) (fun h18 => ?_) (fun h18 => ?_)
    · skip
      refine V_iconst (v := -1) dX8_test_33 (by decide) ?_
      refine V_iret dX8_test_34 rfl (by decide) (by decide) ?_
      exact fin2 (by rw [mTest, if_pos h9, if_pos h18]; try rfl) hw1
    · skip
      refine V_aload_n dX8_test_21 rfl ?_
      refine V_iload_n dX8_test_22 rfl ?_
      refine V_rdV (25) mw_X8_isSet mv_X8_103 dX8_test_23 (ct_X8_isSet hw1 set) hw1.p25 rfl rfl rfl (Nat.le_of_ble_eq_true rfl) (by decide) (by decide) (by decide) (by decide) ?_
      refine V_if_eq 33 dX8_test_26 (by decide) (fun h26 => ?_) (fun h26 => ?_)
      · skip
        refine V_iconst (v := -1) dX8_test_33 (by decide) ?_
        refine V_iret dX8_test_34 rfl (by decide) (by decide) ?_
        exact fin2 (by rw [mTest, if_pos h9, if_neg h18, if_neg (nb (bI_0 h26))]; try rfl) hw1
      · skip
        refine V_iload_n dX8_test_29 rfl ?_
        refine V_if_ne 35 dX8_test_30 (by decide) (fun h30 => ?_) (fun h30 => ?_)
        · skip
          have hin : vp_in (T0 g 25 21) 12 := by
            rw [show T0 g 25 21 = nI nT from hT] at h18 ⊢
            exact vp_in_nI (Nat.lt_of_le_of_ne hT12 (fun z => h18 (by rw [z]; rfl))) (by decide)
          refine V_aload_n dX8_test_35 rfl ?_
          refine V_get (25) fl_X8_40 dX8_test_36 hw1.p25 rfl ?_
          refine V_aload_n dX8_test_39 rfl ?_
          refine V_get (25) fl_X8_100 dX8_test_40 hw1.p25 rfl ?_
          refine V_iload_n dX8_test_43 rfl ?_
          refine W_iast (36) hw1 (by decide) (fun _ => rfl) dX8_test_44 hin (fun ws2 hw2 => ?_)
          refine V_aload_n dX8_test_45 rfl ?_
          refine V_dup dX8_test_46 rfl ?_
          refine V_get (25) fl_X8_100 dX8_test_47 hw2.p25 rfl ?_
          refine V_iconst (v := 1) dX8_test_50 (by decide) ?_
          refine V_iadd dX8_test_51 ?_
          refine W_put (25) hw2 (by decide) fp_X8_100 dX8_test_52 rfl rfl rfl rfl (Nat.le_of_ble_eq_true rfl) (fun ws3 hw3 => ?_)
          refine V_aload_n dX8_test_55 rfl ?_
          refine V_get (25) fl_X8_100 dX8_test_56 hw3.p25 rfl ?_
          refine V_iconst (v := 1) dX8_test_59 (by decide) ?_
          refine V_isub dX8_test_60 ?_
          refine V_iret dX8_test_61 rfl (by decide) (by decide) ?_
          exact fin2 (by rw [mTest, if_pos h9, if_neg h18, if_pos (bI_1 h26), if_neg h30]; rfl) hw3
        · skip
          refine V_iconst (v := -1) dX8_test_33 (by decide) ?_
          refine V_iret dX8_test_34 rfl (by decide) (by decide) ?_
          exact fin2 (by rw [mTest, if_pos h9, if_neg h18, if_pos (bI_1 h26), if_pos h30]; try rfl) hw1
set_option maxHeartbeats 4000000 in
set_option maxRecDepth 20000 in
theorem ct_X8_fits (hw : Wd E ad el g ws) {nP : Nat} (hP : g 25 19 = nI nP) (hP10 : nP ≤ 10) {nN : Nat} (hN : g 25 20 = nI nN) (hN30 : nN ≤ 30) (hok : MNOK g nN) (set : Int32) : Ct E yX8_fits cX8_fits 2 (some (.int)) 3 0 0 [.ref (ad 25), .int set] ws (fun r w => r = some (.int (mFits (T0 g) nP nN set).1) ∧ WF E ad el (mFits (T0 g) nP nN set).2 ws w) := by
  refine Ct_of mw_X8_fits rfl (Nat.le_of_ble_eq_true rfl) ?_
  have hw := WF.rf hw
  refine V_aload_n dX8_fits_0 rfl ?_
  refine V_iconst (v := 0) dX8_fits_1 (by decide) ?_
  refine W_put (25) hw (by decide) fp_X8_71 dX8_fits_2 rfl rfl rfl rfl (Nat.le_of_ble_eq_true rfl) (fun ws1 hw1 => ?_)
  have hw1 : WF E ad el (T0 g) ws ws1 := hw1
  refine V_aload_n dX8_fits_5 rfl ?_
  refine V_iload_n dX8_fits_6 rfl ?_
  refine V_rdV (25) mw_X8_isSet mv_X8_103 dX8_fits_7 (ct_X8_isSet hw1 set) hw1.p25 rfl rfl rfl (Nat.le_of_ble_eq_true rfl) (by decide) (by decide) (by decide) (by decide) ?_
  refine V_if_eq 41 dX8_fits_10 (by decide) (fun h10 => ?_) (fun h10 => ?_)
  · skip
    refine V_iconst (v := -1) dX8_fits_41 (by decide) ?_
    refine V_iret dX8_fits_42 rfl (by decide) (by decide) ?_
    exact fin2 (by rw [mFits, if_neg (nb (bI_0 h10))]; try rfl) hw1
  · skip
    refine V_iload_n dX8_fits_13 rfl ?_
    refine V_aload_n dX8_fits_14 rfl ?_
    refine V_rdV (25) mw_X8_offered mv_X8_110 dX8_fits_15 (ct_X8_offered hw1 hP hP10) hw1.p25 rfl rfl rfl (Nat.le_of_ble_eq_true rfl) (by decide) (by decide) (by decide) (by decide) ?_
    refine V_iconst (v := -1) dX8_fits_18 (by decide) ?_
    refine V_ixor dX8_fits_19 ?_
    refine V_iand dX8_fits_20 ?_
    refine V_if_ne 41 dX8_fits_21 (by decide) (fun h21 => ?_) (fun h21 => ?_)
    · skip
      refine V_iconst (v := -1) dX8_fits_41 (by decide) ?_
      refine V_iret dX8_fits_42 rfl (by decide) (by decide) ?_
      exact fin2 (by rw [mFits, if_pos (bI_1 h10), if_neg h21]; try rfl) hw1
    · skip
      refine V_aload_n dX8_fits_24 rfl ?_
      refine V_iload_n dX8_fits_25 rfl ?_
      refine V_rdV (25) mw_X8_broken mv_X8_114 dX8_fits_26 (ct_X8_broken (g := T0 g) hw1 hN hN30 hok set) hw1.p25 rfl rfl rfl (Nat.le_of_ble_eq_true rfl) (by decide) (by decide) (by decide) (by decide) ?_
      refine V_iconst (v := -1) dX8_fits_29 (by decide) ?_
      refine V_icmp_ne 37 dX8_fits_30 (by decide) (fun h30 => ?_) (fun h30 => ?_)
      · skip
        refine V_iconst (v := 0) dX8_fits_37 (by decide) ?_
        refine V_goto 42 dX8_fits_38 (by decide) ?_
        refine V_iret dX8_fits_42 rfl (by decide) (by decide) ?_
        exact fin2 (by rw [mFits, if_pos (bI_1 h10), if_pos h21, if_neg h30]; try rfl) hw1
      · skip
        refine V_iconst (v := 1) dX8_fits_33 (by decide) ?_
        refine V_goto 42 dX8_fits_34 (by decide) ?_
        refine V_iret dX8_fits_42 rfl (by decide) (by decide) ?_
        exact fin2 (by rw [mFits, if_pos (bI_1 h10), if_pos h21, if_pos h30]; try rfl) hw1
set_option maxHeartbeats 4000000 in
set_option maxRecDepth 20000 in
theorem ct_X8_red (hw : Wd E ad el g ws) {nT : Nat} (hT : g 25 21 = nI nT) (hT12 : nT ≤ 12) (set : Int32) : Ct E yX8_red cX8_red 2 (some (.int)) 2 0 0 [.ref (ad 25), .int set] ws (fun r w => r = some (.int (mRedF (T0 g) nT set).1) ∧ WF E ad el (mRedF (T0 g) nT set).2 ws w) := by
  refine Ct_of mw_X8_red rfl (Nat.le_of_ble_eq_true rfl) ?_
  have hw := WF.rf hw
  refine V_aload_n dX8_red_0 rfl ?_
  refine V_iconst (v := 0) dX8_red_1 (by decide) ?_
  refine W_put (25) hw (by decide) fp_X8_71 dX8_red_2 rfl rfl rfl rfl (Nat.le_of_ble_eq_true rfl) (fun ws1 hw1 => ?_)
  have hw1 : WF E ad el (T0 g) ws ws1 := hw1
  refine V_aload_n dX8_red_5 rfl ?_
  refine V_iload_n dX8_red_6 rfl ?_
  refine V_rdV (25) mw_X8_isSet mv_X8_103 dX8_red_7 (ct_X8_isSet hw1 set) hw1.p25 rfl rfl rfl (Nat.le_of_ble_eq_true rfl) (by decide) (by decide) (by decide) (by decide) ?_
  refine V_if_eq 21 dX8_red_10 (by decide) (fun h10 => ?_) (fun h10 => ?_)
  · skip
    refine V_iconst (v := -1) dX8_red_21 (by decide) ?_
    refine V_iret dX8_red_22 rfl (by decide) (by decide) ?_
    exact fin2 (by rw [mRedF, if_neg (nb (bI_0 h10))]; try rfl) hw1
  · skip
    refine V_aload_n dX8_red_13 rfl ?_
    refine V_iload_n dX8_red_14 rfl ?_
    refine V_rdV (25) mw_X8_redOf mv_X8_118 dX8_red_15 (ct_X8_redOf hw1 hT hT12 set) hw1.p25 rfl rfl rfl (Nat.le_of_ble_eq_true rfl) (by decide) (by decide) (by decide) (by decide) ?_
    refine V_goto 22 dX8_red_18 (by decide) ?_
    refine V_iret dX8_red_22 rfl (by decide) (by decide) ?_
    exact fin2 (by rw [mRedF, if_pos (bI_1 h10)]; try rfl) hw1
set_option maxHeartbeats 4000000 in
set_option maxRecDepth 20000 in
theorem ct_X8_cut (hw : Wd E ad el g ws) {nP : Nat} (hP : g 25 19 = nI nP) (hP10 : nP ≤ 10) {nN : Nat} (hN : g 25 20 = nI nN) (hN30 : nN ≤ 30) (hok : MNOK g nN) {nT : Nat} (hT : g 25 21 = nI nT) (hT12 : nT ≤ 12) : Ct E yX8_cut cX8_cut 2 (some (.int)) 5 0 0 [.ref (ad 25)] ws (fun r w => r = some (.int (mCut (T0 g) nP nN nT).1) ∧ WF E ad el (mCut (T0 g) nP nN nT).2 ws w) := by
  refine Ct_of mw_X8_cut rfl (Nat.le_of_ble_eq_true rfl) ?_
  have hw := WF.rf hw
  have hM : mOff (T0 g) nP < 1024 := Nat.lt_of_lt_of_le (maskN_lt _ nP) (Nat.pow_le_pow_right (by decide) hP10)
  refine V_aload_n dX8_cut_0 rfl ?_
  refine V_iconst (v := 0) dX8_cut_1 (by decide) ?_
  refine W_put (25) hw (by decide) fp_X8_71 dX8_cut_2 rfl rfl rfl rfl (Nat.le_of_ble_eq_true rfl) (fun ws1 hw1 => ?_)
  have hw1 : WF E ad el (T0 g) ws ws1 := hw1
  refine V_aload_n dX8_cut_5 rfl ?_
  refine V_get (25) fl_X8_78 dX8_cut_6 hw1.p25 rfl ?_
  refine V_if_eq 14 dX8_cut_9 (by decide) (fun h9 => ?_) (fun h9 => ?_)
  · skip
    refine V_aload_n dX8_cut_14 rfl ?_
    refine V_iconst (v := 0) dX8_cut_15 (by decide) ?_
    refine V_aload_n dX8_cut_16 rfl ?_
    refine V_rdV (25) mw_X8_offered mv_X8_110 dX8_cut_17 (ct_X8_offered hw1 hP hP10) hw1.p25 rfl rfl rfl (Nat.le_of_ble_eq_true rfl) (by decide) (by decide) (by decide) (by decide) ?_
    refine V_rdV (25) mw_X8_best mv_X8_127 dX8_cut_20 (ct_X8_best (g := T0 g) hw1 hP hP10 hN hN30 hok hT hT12 (U := 0) (by decide) hM) hw1.p25 rfl rfl rfl (Nat.le_of_ble_eq_true rfl) (by decide) (by decide) (by decide) (by decide) ?_
    refine V_istore_n dX8_cut_23 (by decide) ?_
    refine V_iload_n dX8_cut_24 rfl ?_
    refine V_iconst (v := -1) dX8_cut_25 (by decide) ?_
    refine V_icmp_ne 31 dX8_cut_26 (by decide) (fun h26 => ?_) (fun h26 => ?_)
    · skip
      refine V_aload_n dX8_cut_31 rfl ?_
      refine V_iload_n dX8_cut_32 rfl ?_
      refine W_put (25) hw1 (by decide) fp_X8_90 dX8_cut_33 rfl rfl rfl rfl (Nat.le_of_ble_eq_true rfl) (fun ws2 hw2 => ?_)
      refine V_aload_n dX8_cut_36 rfl ?_
      refine V_iconst (v := 1) dX8_cut_37 (by decide) ?_
      refine W_put (25) hw2 (by decide) fp_X8_78 dX8_cut_38 rfl rfl rfl rfl (Nat.le_of_ble_eq_true rfl) (fun ws3 hw3 => ?_)
      refine V_aload_n dX8_cut_41 rfl ?_
      refine V_get (25) fl_X8_90 dX8_cut_42 hw3.p25 rfl ?_
      refine V_iret dX8_cut_45 rfl (by decide) (by decide) ?_
      exact fin2 (by rw [mCut, if_pos h9, if_neg h26]; rfl) hw3
    · skip
      refine V_iconst (v := -1) dX8_cut_29 (by decide) ?_
      refine V_iret dX8_cut_30 rfl (by decide) (by decide) ?_
      exact fin2 (by rw [mCut, if_pos h9, if_pos h26]; try rfl) hw1
  · skip
    refine V_iconst (v := -1) dX8_cut_12 (by decide) ?_
    refine V_iret dX8_cut_13 rfl (by decide) (by decide) ?_
    exact fin2 (by rw [mCut, if_neg h9]; try rfl) hw1
set_option maxHeartbeats 4000000 in
set_option maxRecDepth 20000 in
theorem ct_X8_chosen (hw : Wd E ad el g ws)  : Ct E yX8_chosen cX8_chosen 1 (some (.int)) 0 0 0 [.ref (ad 25)] ws (fun r w => r = some (.int (mChosen (T0 g)).1) ∧ WF E ad el (mChosen (T0 g)).2 ws w) := by
  refine Ct_of mw_X8_chosen rfl (Nat.le_of_ble_eq_true rfl) ?_
  have hw := WF.rf hw
  refine V_aload_n dX8_chosen_0 rfl ?_
  refine V_iconst (v := 0) dX8_chosen_1 (by decide) ?_
  refine W_put (25) hw (by decide) fp_X8_71 dX8_chosen_2 rfl rfl rfl rfl (Nat.le_of_ble_eq_true rfl) (fun ws1 hw1 => ?_)
  have hw1 : WF E ad el (T0 g) ws ws1 := hw1
  refine V_aload_n dX8_chosen_5 rfl ?_
  refine V_get (25) fl_X8_78 dX8_chosen_6 hw1.p25 rfl ?_
  refine V_if_eq 19 dX8_chosen_9 (by decide) (fun h9 => ?_) (fun h9 => ?_)
  · skip
    refine V_iconst (v := -1) dX8_chosen_19 (by decide) ?_
    refine V_iret dX8_chosen_20 rfl (by decide) (by decide) ?_
    exact fin2 (by rw [mChosen, if_pos h9]; try rfl) hw1
  · skip
    refine V_aload_n dX8_chosen_12 rfl ?_
    refine V_get (25) fl_X8_90 dX8_chosen_13 hw1.p25 rfl ?_
    refine V_goto 20 dX8_chosen_16 (by decide) ?_
    refine V_iret dX8_chosen_20 rfl (by decide) (by decide) ?_
    exact fin2 (by rw [mChosen, if_neg h9]; try rfl) hw1
set_option maxHeartbeats 4000000 in
set_option maxRecDepth 20000 in
theorem ct_X8_worth (hw : Wd E ad el g ws) {nP : Nat} (hP : g 25 19 = nI nP) (hP10 : nP ≤ 10) (hC : MCOK g) : Ct E yX8_worth cX8_worth 1 (some (.int)) 2 0 0 [.ref (ad 25)] ws (fun r w => r = some (.int (mWorthF (T0 g) nP).1) ∧ WF E ad el (mWorthF (T0 g) nP).2 ws w) := by
  refine Ct_of mw_X8_worth rfl (Nat.le_of_ble_eq_true rfl) ?_
  have hw := WF.rf hw
  have hsum : ¬ T0 g 25 25 = 0 → ∀ {v w : va_W}, WF E ad el (T0 g) v w → Ct E yX8_worthOf cX8_worthOf 4 (some (.int)) 1 0 0 [.ref (ad 25), .int (T0 g 25 24)] w (fun r w9 => r = some (.int (mSum (T0 g) nP (T0 g 25 24).toNatClampNeg)) ∧ w9 = w) := by
    intro h v w hw
    obtain ⟨C, hC1, hC2⟩ := hC h
    rw [show T0 g 25 24 = nI C from hC2, nI_clamp (by omega)]
    exact ct_X8_worthOf hw hP hP10 hC1
  refine V_aload_n dX8_worth_0 rfl ?_
  refine V_iconst (v := 0) dX8_worth_1 (by decide) ?_
  refine W_put (25) hw (by decide) fp_X8_71 dX8_worth_2 rfl rfl rfl rfl (Nat.le_of_ble_eq_true rfl) (fun ws1 hw1 => ?_)
  have hw1 : WF E ad el (T0 g) ws ws1 := hw1
  refine V_aload_n dX8_worth_5 rfl ?_
  refine V_get (25) fl_X8_78 dX8_worth_6 hw1.p25 rfl ?_
  refine V_if_eq 23 dX8_worth_9 (by decide) (fun h9 => ?_) (fun h9 => ?_)
  · skip
    refine V_iconst (v := -1) dX8_worth_23 (by decide) ?_
    refine V_iret dX8_worth_24 rfl (by decide) (by decide) ?_
    exact fin2 (by rw [mWorthF, if_pos h9]; try rfl) hw1
  · skip
    refine V_aload_n dX8_worth_12 rfl ?_
    refine V_aload_n dX8_worth_13 rfl ?_
    refine V_get (25) fl_X8_90 dX8_worth_14 hw1.p25 rfl ?_
    refine V_rdV (25) mw_X8_worthOf mv_X8_124 dX8_worth_17 (hsum h9 hw1) hw1.p25 rfl rfl rfl (Nat.le_of_ble_eq_true rfl) (by decide) (by decide) (by decide) (by decide) ?_
    refine V_goto 24 dX8_worth_20 (by decide) ?_
    refine V_iret dX8_worth_24 rfl (by decide) (by decide) ?_
    exact fin2 (by rw [mWorthF, if_neg h9]; try rfl) hw1
set_option maxHeartbeats 4000000 in
set_option maxRecDepth 20000 in
theorem ct_X8_why (hw : Wd E ad el g ws) {nP : Nat} (hP : g 25 19 = nI nP) (hP10 : nP ≤ 10) {nN : Nat} (hN : g 25 20 = nI nN) (hN30 : nN ≤ 30) (hok : MNOK g nN) {nT : Nat} (hT : g 25 21 = nI nT) (hT12 : nT ≤ 12) (p : Int32) : Ct E yX8_why cX8_why 3 (some (.int)) 3 0 0 [.ref (ad 25), .int p] ws (fun r w => r = some (.int (mWhy (T0 g) nN nT p).1) ∧ WF E ad el (mWhy (T0 g) nN nT p).2 ws w) := by
  refine Ct_of mw_X8_why rfl (Nat.le_of_ble_eq_true rfl) ?_
  have hw := WF.rf hw
  refine V_aload_n dX8_why_0 rfl ?_
  refine V_iconst (v := 0) dX8_why_1 (by decide) ?_
  refine W_put (25) hw (by decide) fp_X8_71 dX8_why_2 rfl rfl rfl rfl (Nat.le_of_ble_eq_true rfl) (fun ws1 hw1 => ?_)
  have hw1 : WF E ad el (T0 g) ws ws1 := hw1
  refine V_aload_n dX8_why_5 rfl ?_
  refine V_get (25) fl_X8_78 dX8_why_6 hw1.p25 rfl ?_
  refine V_if_eq 41 dX8_why_9 (by decide) (fun h9 => ?_) (fun h9 => ?_)
  · skip
    refine V_iconst (v := -1) dX8_why_41 (by decide) ?_
    refine V_iret dX8_why_42 rfl (by decide) (by decide) ?_
    exact fin2 (by rw [mWhy, if_pos h9]; try rfl) hw1
  · skip
    refine V_aload_n dX8_why_12 rfl ?_
    refine V_iload_n dX8_why_13 rfl ?_
    refine V_rdV (25) mw_X8_isPart mv_X8_86 dX8_why_14 (ct_X8_isPart hw1 p) hw1.p25 rfl rfl rfl (Nat.le_of_ble_eq_true rfl) (by decide) (by decide) (by decide) (by decide) ?_
    refine V_if_eq 41 dX8_why_17 (by decide) (fun h17 => ?_) (fun h17 => ?_)
    · skip
      refine V_iconst (v := -1) dX8_why_41 (by decide) ?_
      refine V_iret dX8_why_42 rfl (by decide) (by decide) ?_
      exact fin2 (by rw [mWhy, if_neg h9, if_neg (nb (bI_0 h17))]; try rfl) hw1
    · skip
      refine V_aload_n dX8_why_20 rfl ?_
      refine V_get (25) fl_X8_13 dX8_why_21 hw1.p25 rfl ?_
      refine V_iload_n dX8_why_24 rfl ?_
      refine V_iald (27) dX8_why_25 hw1.p27 (by obtain ⟨j, hj, rfl⟩ := mIsPt_in (g := T0 g) hP hP10 (bI_1 h17); exact vp_in_nI (by omega) (by decide)) ?_
      refine V_iconst (v := -1) dX8_why_26 (by decide) ?_
      refine V_icmp_eq 41 dX8_why_27 (by decide) (fun h27 => ?_) (fun h27 => ?_)
      · skip
        refine V_iconst (v := -1) dX8_why_41 (by decide) ?_
        refine V_iret dX8_why_42 rfl (by decide) (by decide) ?_
        exact fin2 (by rw [mWhy, if_neg h9, if_pos (bI_1 h17), if_pos h27]; try rfl) hw1
      · skip
        refine V_aload_n dX8_why_30 rfl ?_
        refine V_get (25) fl_X8_90 dX8_why_31 hw1.p25 rfl ?_
        refine V_iload_n dX8_why_34 rfl ?_
        refine V_rdS mw_X8_isOf ms_X8_93 dX8_why_35 (ct_X8_isOf _ _) rfl rfl (Nat.le_of_ble_eq_true rfl) (by decide) (by decide) (by decide) (by decide) ?_
        refine V_if_eq 43 dX8_why_38 (by decide) (fun h38 => ?_) (fun h38 => ?_)
        · skip
          refine V_aload_n dX8_why_43 rfl ?_
          refine V_get (25) fl_X8_90 dX8_why_44 hw1.p25 rfl ?_
          refine V_iconst (v := 1) dX8_why_47 (by decide) ?_
          refine V_iload_n dX8_why_48 rfl ?_
          refine V_ishl dX8_why_49 ?_
          refine V_ior dX8_why_50 ?_
          refine V_istore_n dX8_why_51 (by decide) ?_
          refine V_aload_n dX8_why_52 rfl ?_
          refine V_iload_n dX8_why_53 rfl ?_
          refine V_rdV (25) mw_X8_broken mv_X8_114 dX8_why_54 (ct_X8_broken (g := T0 g) hw1 hN hN30 hok _) hw1.p25 rfl rfl rfl (Nat.le_of_ble_eq_true rfl) (by decide) (by decide) (by decide) (by decide) ?_
          refine V_iconst (v := -1) dX8_why_57 (by decide) ?_
          refine V_icmp_eq 70 dX8_why_58 (by decide) (fun h58 => ?_) (fun h58 => ?_)
          · skip
            refine V_aload_n dX8_why_70 rfl ?_
            refine V_iload_n dX8_why_71 rfl ?_
            refine V_rdV (25) mw_X8_redOf mv_X8_118 dX8_why_72 (ct_X8_redOf hw1 hT hT12 _) hw1.p25 rfl rfl rfl (Nat.le_of_ble_eq_true rfl) (by decide) (by decide) (by decide) (by decide) ?_
            refine V_iconst (v := -1) dX8_why_75 (by decide) ?_
            refine V_icmp_eq 91 dX8_why_76 (by decide) (fun h76 => ?_) (fun h76 => ?_)
            · skip
              refine V_iconst (v := 0) dX8_why_91 (by decide) ?_
              refine V_iret dX8_why_92 rfl (by decide) (by decide) ?_
              exact fin2 (by rw [mWhy, if_neg h9, if_pos (bI_1 h17), if_neg h27, if_neg (nb (bI_0 h38)), if_pos h58, if_pos h76]; try rfl) hw1
            · skip
              refine V_sipush (v := 200) dX8_why_79 (by decide) ?_
              refine V_aload_n dX8_why_82 rfl ?_
              refine V_iload_n dX8_why_83 rfl ?_
              refine V_rdV (25) mw_X8_redOf mv_X8_118 dX8_why_84 (ct_X8_redOf hw1 hT hT12 _) hw1.p25 rfl rfl rfl (Nat.le_of_ble_eq_true rfl) (by decide) (by decide) (by decide) (by decide) ?_
              refine V_iadd dX8_why_87 ?_
              refine V_goto 92 dX8_why_88 (by decide) ?_
              refine V_iret dX8_why_92 rfl (by decide) (by decide) ?_
              exact fin2 (by rw [mWhy, if_neg h9, if_pos (bI_1 h17), if_neg h27, if_neg (nb (bI_0 h38)), if_pos h58, if_neg h76]; try rfl) hw1
          · skip
            refine V_bipush (v := 100) dX8_why_61 (by decide) ?_
            refine V_aload_n dX8_why_63 rfl ?_
            refine V_iload_n dX8_why_64 rfl ?_
            refine V_rdV (25) mw_X8_broken mv_X8_114 dX8_why_65 (ct_X8_broken (g := T0 g) hw1 hN hN30 hok _) hw1.p25 rfl rfl rfl (Nat.le_of_ble_eq_true rfl) (by decide) (by decide) (by decide) (by decide) ?_
            refine V_iadd dX8_why_68 ?_
            refine V_iret dX8_why_69 rfl (by decide) (by decide) ?_
            exact fin2 (by rw [mWhy, if_neg h9, if_pos (bI_1 h17), if_neg h27, if_neg (nb (bI_0 h38)), if_neg h58]; try rfl) hw1
        · skip
          refine V_iconst (v := -1) dX8_why_41 (by decide) ?_
          refine V_iret dX8_why_42 rfl (by decide) (by decide) ?_
          exact fin2 (by rw [mWhy, if_neg h9, if_pos (bI_1 h17), if_neg h27, if_pos (bI_1 h38)]; try rfl) hw1
set_option maxHeartbeats 4000000 in
set_option maxRecDepth 20000 in
theorem ct_X8_tries (hw : Wd E ad el g ws) {nP : Nat} (hP : g 25 19 = nI nP) (hP10 : nP ≤ 10) (p v u : Int32) : Ct E yX8_tries cX8_tries 4 (some (.boolean)) 1 0 0 [.ref (ad 25), .int p, .int v, .int u] ws (fun r w => r = some (.int (bI (mMay (T0 g) p v u))) ∧ WF E ad el (if mMay (T0 g) p v u = true then tryG (T0 g) p v u else T0 g) ws w) := by
  refine Ct_of mw_X8_tries rfl (Nat.le_of_ble_eq_true rfl) ?_
  have hw := WF.rf hw
  refine V_aload_n dX8_tries_0 rfl ?_
  refine V_iconst (v := 0) dX8_tries_1 (by decide) ?_
  refine W_put (25) hw (by decide) fp_X8_71 dX8_tries_2 rfl rfl rfl rfl (Nat.le_of_ble_eq_true rfl) (fun ws1 hw1 => ?_)
  have hw1 : WF E ad el (T0 g) ws ws1 := hw1
  refine V_aload_n dX8_tries_5 rfl ?_
  refine V_get (25) fl_X8_78 dX8_tries_6 hw1.p25 rfl ?_
  refine V_if_eq 63 dX8_tries_9 (by decide) (fun h9 => ?_) (fun h9 => ?_)
  · skip
    refine V_iconst (v := 0) dX8_tries_63 (by decide) ?_
    refine V_zret dX8_tries_64 rfl (by first | exact Or.inl rfl | exact Or.inr rfl) (by decide) (by decide) ?_
    have c : mMay (T0 g) p v u = false := by simp [mMay, h9]
    exact ⟨by rw [c]; rfl, by rw [if_neg (nb c)]; exact hw1⟩
  · skip
    refine V_aload_n dX8_tries_12 rfl ?_
    refine V_iload_n dX8_tries_13 rfl ?_
    refine V_rdV (25) mw_X8_isPart mv_X8_86 dX8_tries_14 (ct_X8_isPart hw1 p) hw1.p25 rfl rfl rfl (Nat.le_of_ble_eq_true rfl) (by decide) (by decide) (by decide) (by decide) ?_
    refine V_if_eq 63 dX8_tries_17 (by decide) (fun h17 => ?_) (fun h17 => ?_)
    · skip
      refine V_iconst (v := 0) dX8_tries_63 (by decide) ?_
      refine V_zret dX8_tries_64 rfl (by first | exact Or.inl rfl | exact Or.inr rfl) (by decide) (by decide) ?_
      have c : mMay (T0 g) p v u = false := by simp [mMay, h9, bI_0 h17]
      exact ⟨by rw [c]; rfl, by rw [if_neg (nb c)]; exact hw1⟩
    · skip
      refine V_iload_n dX8_tries_20 rfl ?_
      refine V_iconst (v := 0) dX8_tries_21 (by decide) ?_
      refine V_sipush (v := 1000) dX8_tries_22 (by decide) ?_
      refine V_rdS mw_X8_isIn ms_X8_82 dX8_tries_25 (ct_X8_isIn _ _ _) rfl rfl (Nat.le_of_ble_eq_true rfl) (by decide) (by decide) (by decide) (by decide) ?_
      refine V_if_eq 63 dX8_tries_28 (by decide) (fun h28 => ?_) (fun h28 => ?_)
      · skip
        refine V_iconst (v := 0) dX8_tries_63 (by decide) ?_
        refine V_zret dX8_tries_64 rfl (by first | exact Or.inl rfl | exact Or.inr rfl) (by decide) (by decide) ?_
        have c : mMay (T0 g) p v u = false := by simp [mMay, h9, bI_1 h17, bI_0 h28]
        exact ⟨by rw [c]; rfl, by rw [if_neg (nb c)]; exact hw1⟩
      · skip
        refine V_iload_n dX8_tries_31 rfl ?_
        refine V_iconst (v := 1) dX8_tries_32 (by decide) ?_
        refine V_sipush (v := 1000) dX8_tries_33 (by decide) ?_
        refine V_rdS mw_X8_isIn ms_X8_82 dX8_tries_36 (ct_X8_isIn _ _ _) rfl rfl (Nat.le_of_ble_eq_true rfl) (by decide) (by decide) (by decide) (by decide) ?_
        refine V_if_eq 63 dX8_tries_39 (by decide) (fun h39 => ?_) (fun h39 => ?_)
        · skip
          refine V_iconst (v := 0) dX8_tries_63 (by decide) ?_
          refine V_zret dX8_tries_64 rfl (by first | exact Or.inl rfl | exact Or.inr rfl) (by decide) (by decide) ?_
          have c : mMay (T0 g) p v u = false := by simp [mMay, h9, bI_1 h17, bI_1 h28, bI_0 h39]
          exact ⟨by rw [c]; rfl, by rw [if_neg (nb c)]; exact hw1⟩
        · skip
          refine V_aload_n dX8_tries_42 rfl ?_
          refine V_get (25) fl_X8_90 dX8_tries_43 hw1.p25 rfl ?_
          refine V_iload_n dX8_tries_46 rfl ?_
          refine V_rdS mw_X8_isOf ms_X8_93 dX8_tries_47 (ct_X8_isOf _ _) rfl rfl (Nat.le_of_ble_eq_true rfl) (by decide) (by decide) (by decide) (by decide) ?_
          refine V_if_ne 63 dX8_tries_50 (by decide) (fun h50 => ?_) (fun h50 => ?_)
          · skip
            refine V_iconst (v := 0) dX8_tries_63 (by decide) ?_
            refine V_zret dX8_tries_64 rfl (by first | exact Or.inl rfl | exact Or.inr rfl) (by decide) (by decide) ?_
            have c : mMay (T0 g) p v u = false := by simp [mMay, h9, bI_1 h17, bI_1 h28, bI_1 h39, bI_1 h50]
            exact ⟨by rw [c]; rfl, by rw [if_neg (nb c)]; exact hw1⟩
          · skip
            refine V_iload_n dX8_tries_53 rfl ?_
            refine V_aload_n dX8_tries_54 rfl ?_
            refine V_get (25) fl_X8_9 dX8_tries_55 hw1.p25 rfl ?_
            refine V_iload_n dX8_tries_58 rfl ?_
            refine V_iald (26) dX8_tries_59 hw1.p26 (by obtain ⟨j, hj, rfl⟩ := mIsPt_in (g := T0 g) hP hP10 (bI_1 h17); exact vp_in_nI (by omega) (by decide)) ?_
            refine V_icmp_ne 65 dX8_tries_60 (by decide) (fun h60 => ?_) (fun h60 => ?_)
            · skip
              refine V_aload_n dX8_tries_65 rfl ?_
              refine V_aload_n dX8_tries_66 rfl ?_
              refine V_get (25) fl_X8_13 dX8_tries_67 hw1.p25 rfl ?_
              refine V_iload_n dX8_tries_70 rfl ?_
              refine V_iald (27) dX8_tries_71 hw1.p27 (by obtain ⟨j, hj, rfl⟩ := mIsPt_in (g := T0 g) hP hP10 (bI_1 h17); exact vp_in_nI (by omega) (by decide)) ?_
              refine W_put (25) hw1 (by decide) fp_X8_130 dX8_tries_72 rfl rfl rfl rfl (Nat.le_of_ble_eq_true rfl) (fun ws2 hw2 => ?_)
              refine V_aload_n dX8_tries_75 rfl ?_
              refine V_aload_n dX8_tries_76 rfl ?_
              refine V_get (25) fl_X8_16 dX8_tries_77 hw2.p25 rfl ?_
              refine V_iload_n dX8_tries_80 rfl ?_
              refine V_iald (28) dX8_tries_81 hw2.p28 (by obtain ⟨j, hj, rfl⟩ := mIsPt_in (g := T0 g) hP hP10 (bI_1 h17); exact vp_in_nI (by omega) (by decide)) ?_
              refine W_put (25) hw2 (by decide) fp_X8_133 dX8_tries_82 rfl rfl rfl rfl (Nat.le_of_ble_eq_true rfl) (fun ws3 hw3 => ?_)
              refine V_aload_n dX8_tries_85 rfl ?_
              refine V_get (25) fl_X8_13 dX8_tries_86 hw3.p25 rfl ?_
              refine V_iload_n dX8_tries_89 rfl ?_
              refine V_iload_n dX8_tries_90 rfl ?_
              refine W_iast (27) hw3 (by decide) (fun _ => rfl) dX8_tries_91 (by obtain ⟨j, hj, rfl⟩ := mIsPt_in (g := T0 g) hP hP10 (bI_1 h17); exact vp_in_nI (by omega) (by decide)) (fun ws4 hw4 => ?_)
              refine V_aload_n dX8_tries_92 rfl ?_
              refine V_get (25) fl_X8_16 dX8_tries_93 hw4.p25 rfl ?_
              refine V_iload_n dX8_tries_96 rfl ?_
              refine V_iload_n dX8_tries_97 rfl ?_
              refine W_iast (28) hw4 (by decide) (fun _ => rfl) dX8_tries_98 (by obtain ⟨j, hj, rfl⟩ := mIsPt_in (g := T0 g) hP hP10 (bI_1 h17); exact vp_in_nI (by omega) (by decide)) (fun ws5 hw5 => ?_)
              refine V_iconst (v := 1) dX8_tries_99 (by decide) ?_
              refine V_zret dX8_tries_100 rfl (by first | exact Or.inl rfl | exact Or.inr rfl) (by decide) (by decide) ?_
              have c : mMay (T0 g) p v u = true := by simp [mMay, h9, bI_1 h17, bI_1 h28, bI_1 h39, bI_0 h50, h60]
              exact ⟨by rw [c]; rfl, by rw [if_pos c]; exact hw5⟩
            · skip
              refine V_iconst (v := 0) dX8_tries_63 (by decide) ?_
              refine V_zret dX8_tries_64 rfl (by first | exact Or.inl rfl | exact Or.inr rfl) (by decide) (by decide) ?_
              have c : mMay (T0 g) p v u = false := by simp [mMay, h9, bI_1 h17, bI_1 h28, bI_1 h39, bI_0 h50, h60]
              exact ⟨by rw [c]; rfl, by rw [if_neg (nb c)]; exact hw1⟩
set_option maxHeartbeats 4000000 in
set_option maxRecDepth 20000 in
theorem ct_X8_fix (hw : Wd E ad el g ws) {nP : Nat} (hP : g 25 19 = nI nP) (hP10 : nP ≤ 10) {nN : Nat} (hN : g 25 20 = nI nN) (hN30 : nN ≤ 30) (hok : MNOK g nN) {nT : Nat} (hT : g 25 21 = nI nT) (hT12 : nT ≤ 12) (p v u : Int32) : Ct E yX8_fix cX8_fix 4 (some (.int)) 4 0 0 [.ref (ad 25), .int p, .int v, .int u] ws (fun r w => r = some (.int (mFix (T0 g) nP nN nT p v u).1) ∧ WF E ad el (mFix (T0 g) nP nN nT p v u).2 ws w) := by
  refine Ct_of mw_X8_fix rfl (Nat.le_of_ble_eq_true rfl) ?_
  have hw := WF.rf hw
  refine V_aload_n dX8_fix_0 rfl ?_
  refine V_iload_n dX8_fix_1 rfl ?_
  refine V_iload_n dX8_fix_2 rfl ?_
  refine V_iload_n dX8_fix_3 rfl ?_
  refine V_callV (25) mw_X8_tries mv_X8_136 dX8_fix_4 (ct_X8_tries hw.1 hP hP10 p v u) hw.p25 rfl rfl rfl (Nat.le_of_ble_eq_true rfl) (by decide) (by decide) (by decide) (by decide) (fun r4 ws1 hp4 => ?_)
  obtain ⟨rfl, hw1⟩ := hp4
  have hw1 := hw.trans hw1
  refine V_if_ne 12 dX8_fix_7 (by decide) (fun h7 => ?_) (fun h7 => ?_)
  · skip
    rw [if_pos (bI_1 h7)] at hw1
    refine V_aload_n dX8_fix_12 rfl ?_
    refine V_aload_n dX8_fix_13 rfl ?_
    refine V_get (25) fl_X8_90 dX8_fix_14 hw1.p25 rfl ?_
    refine V_iconst (v := 1) dX8_fix_17 (by decide) ?_
    refine V_iload_n dX8_fix_18 rfl ?_
    refine V_ishl dX8_fix_19 ?_
    refine V_ior dX8_fix_20 ?_
    refine V_rdV (25) mw_X8_goes mv_X8_121 dX8_fix_21 (ct_X8_goes (g := tryG (T0 g) p v u) hw1 hP hP10 hN hN30 (hok.to rfl rfl) hT hT12 (orM (T0 g) p)) hw1.p25 rfl rfl rfl (Nat.le_of_ble_eq_true rfl) (by decide) (by decide) (by decide) (by decide) ?_
    refine V_if_eq 41 dX8_fix_24 (by decide) (fun h24 => ?_) (fun h24 => ?_)
    · skip
      refine V_aload_n dX8_fix_41 rfl ?_
      refine V_get (25) fl_X8_13 dX8_fix_42 hw1.p25 rfl ?_
      refine V_iload_n dX8_fix_45 rfl ?_
      refine V_aload_n dX8_fix_46 rfl ?_
      refine V_get (25) fl_X8_130 dX8_fix_47 hw1.p25 rfl ?_
      refine W_iast (27) hw1 (by decide) (fun _ => rfl) dX8_fix_50 (by obtain ⟨j, hj, rfl⟩ := mIsPt_in (g := T0 g) hP hP10 (mMay_pt (bI_1 h7)).2; exact vp_in_nI (by omega) (by decide)) (fun ws2 hw2 => ?_)
      refine V_aload_n dX8_fix_51 rfl ?_
      refine V_get (25) fl_X8_16 dX8_fix_52 hw2.p25 rfl ?_
      refine V_iload_n dX8_fix_55 rfl ?_
      refine V_aload_n dX8_fix_56 rfl ?_
      refine V_get (25) fl_X8_133 dX8_fix_57 hw2.p25 rfl ?_
      refine W_iast (28) hw2 (by decide) (fun _ => rfl) dX8_fix_60 (by obtain ⟨j, hj, rfl⟩ := mIsPt_in (g := T0 g) hP hP10 (mMay_pt (bI_1 h7)).2; exact vp_in_nI (by omega) (by decide)) (fun ws3 hw3 => ?_)
      refine V_iconst (v := 0) dX8_fix_61 (by decide) ?_
      refine V_iret dX8_fix_62 rfl (by decide) (by decide) ?_
      exact fin2 (by rw [mFix, if_pos (bI_1 h7), if_neg (nb (bI_0 h24))]; try rfl) hw3
    · skip
      refine V_aload_n dX8_fix_27 rfl ?_
      refine V_dup dX8_fix_28 rfl ?_
      refine V_get (25) fl_X8_90 dX8_fix_29 hw1.p25 rfl ?_
      refine V_iconst (v := 1) dX8_fix_32 (by decide) ?_
      refine V_iload_n dX8_fix_33 rfl ?_
      refine V_ishl dX8_fix_34 ?_
      refine V_ior dX8_fix_35 ?_
      refine W_put (25) hw1 (by decide) fp_X8_90 dX8_fix_36 rfl rfl rfl rfl (Nat.le_of_ble_eq_true rfl) (fun ws2 hw2 => ?_)
      refine V_iconst (v := 1) dX8_fix_39 (by decide) ?_
      refine V_iret dX8_fix_40 rfl (by decide) (by decide) ?_
      exact fin2 (by rw [mFix, if_pos (bI_1 h7), if_pos (bI_1 h24)]; try rfl) hw2
  · skip
    rw [if_neg (nb (bI_0 h7))] at hw1
    refine V_iconst (v := -1) dX8_fix_10 (by decide) ?_
    refine V_iret dX8_fix_11 rfl (by decide) (by decide) ?_
    exact fin2 (by rw [mFix, if_neg (nb (bI_0 h7))]; try rfl) hw1
set_option maxHeartbeats 4000000 in
set_option maxRecDepth 20000 in
theorem ct_X8_leave (hw : Wd E ad el g ws) {nP : Nat} (hP : g 25 19 = nI nP) (hP10 : nP ≤ 10) {nN : Nat} (hN : g 25 20 = nI nN) (hN30 : nN ≤ 30) (hok : MNOK g nN) {nT : Nat} (hT : g 25 21 = nI nT) (hT12 : nT ≤ 12) (hC : MCOK g) (p v u : Int32) : Ct E yX8_leave cX8_leave 5 (some (.int)) 5 0 0 [.ref (ad 25), .int p, .int v, .int u] ws (fun r w => r = some (.int (mLeave (T0 g) nP nN nT p v u).1) ∧ WF E ad el (mLeave (T0 g) nP nN nT p v u).2 ws w) := by
  refine Ct_of mw_X8_leave rfl (Nat.le_of_ble_eq_true rfl) ?_
  have hw := WF.rf hw
  have hbst : mMay (T0 g) p v u = true → ∀ {v1 w : va_W}, WF E ad el (tryG (T0 g) p v u) v1 w → Ct E yX8_best cX8_best 6 (some (.int)) 4 0 0 [.ref (ad 25), .int ((1 : Int32) <<< (p &&& 31)), .int (orM (T0 g) p)] w (fun r w9 => r = some (.int (sI (mLvS (T0 g) nP nN nT p v u))) ∧ w9 = w) := by
    intro h v1 w hw
    obtain ⟨j, C, hj, hC1, -, -, e2, e3⟩ := orM_set (g := T0 g) hP hP10 hC h
    have hS := or_lt hC1 (show j < 10 by omega)
    have hU : 2 ^ j < 2 ^ 10 := Nat.pow_lt_pow_right (by decide) (by omega)
    unfold mLvS
    rw [e2, e3, nI_clamp (by omega), nI_clamp (by omega)]
    exact ct_X8_best (g := tryG (T0 g) p v u) hw hP hP10 hN hN30 (hok.to rfl rfl) hT hT12 hU hS
  refine V_aload_n dX8_leave_0 rfl ?_
  refine V_iload_n dX8_leave_1 rfl ?_
  refine V_iload_n dX8_leave_2 rfl ?_
  refine V_iload_n dX8_leave_3 rfl ?_
  refine V_callV (25) mw_X8_tries mv_X8_136 dX8_leave_4 (ct_X8_tries hw.1 hP hP10 p v u) hw.p25 rfl rfl rfl (Nat.le_of_ble_eq_true rfl) (by decide) (by decide) (by decide) (by decide) (fun r4 ws1 hp4 => ?_)
  obtain ⟨rfl, hw1⟩ := hp4
  have hw1 := hw.trans hw1
  refine V_if_ne 12 dX8_leave_7 (by decide) (fun h7 => ?_) (fun h7 => ?_)
  · skip
    rw [if_pos (bI_1 h7)] at hw1
    refine V_aload_n dX8_leave_12 rfl ?_
    refine V_iconst (v := 1) dX8_leave_13 (by decide) ?_
    refine V_iload_n dX8_leave_14 rfl ?_
    refine V_ishl dX8_leave_15 ?_
    refine V_aload_n dX8_leave_16 rfl ?_
    refine V_get (25) fl_X8_90 dX8_leave_17 hw1.p25 rfl ?_
    refine V_iconst (v := 1) dX8_leave_20 (by decide) ?_
    refine V_iload_n dX8_leave_21 rfl ?_
    refine V_ishl dX8_leave_22 ?_
    refine V_ior dX8_leave_23 ?_
    refine V_rdV (25) mw_X8_best mv_X8_127 dX8_leave_24 (hbst (bI_1 h7) hw1) hw1.p25 rfl rfl rfl (Nat.le_of_ble_eq_true rfl) (by decide) (by decide) (by decide) (by decide) ?_
    refine V_istore dX8_leave_27 (by decide) ?_
    refine V_aload_n dX8_leave_29 rfl ?_
    refine V_get (25) fl_X8_13 dX8_leave_30 hw1.p25 rfl ?_
    refine V_iload_n dX8_leave_33 rfl ?_
    refine V_aload_n dX8_leave_34 rfl ?_
    refine V_get (25) fl_X8_130 dX8_leave_35 hw1.p25 rfl ?_
    refine W_iast (27) hw1 (by decide) (fun _ => rfl) dX8_leave_38 (by obtain ⟨j, hj, rfl⟩ := mIsPt_in (g := T0 g) hP hP10 (mMay_pt (bI_1 h7)).2; exact vp_in_nI (by omega) (by decide)) (fun ws2 hw2 => ?_)
    refine V_aload_n dX8_leave_39 rfl ?_
    refine V_get (25) fl_X8_16 dX8_leave_40 hw2.p25 rfl ?_
    refine V_iload_n dX8_leave_43 rfl ?_
    refine V_aload_n dX8_leave_44 rfl ?_
    refine V_get (25) fl_X8_133 dX8_leave_45 hw2.p25 rfl ?_
    refine W_iast (28) hw2 (by decide) (fun _ => rfl) dX8_leave_48 (by obtain ⟨j, hj, rfl⟩ := mIsPt_in (g := T0 g) hP hP10 (mMay_pt (bI_1 h7)).2; exact vp_in_nI (by omega) (by decide)) (fun ws3 hw3 => ?_)
    refine V_iload dX8_leave_49 rfl ?_
    refine V_iconst (v := -1) dX8_leave_51 (by decide) ?_
    refine V_icmp_ne 59 dX8_leave_52 (by decide) (fun h52 => ?_) (fun h52 => ?_)
    · skip
      refine V_aload_n dX8_leave_59 rfl ?_
      refine V_get (25) fl_X8_90 dX8_leave_60 hw3.p25 rfl ?_
      refine V_iload dX8_leave_63 rfl ?_
      refine V_iconst (v := -1) dX8_leave_65 (by decide) ?_
      refine V_ixor dX8_leave_66 ?_
      refine V_iand dX8_leave_67 ?_
      refine V_iret dX8_leave_68 rfl (by decide) (by decide) ?_
      exact fin2 (by rw [mLeave, if_pos (bI_1 h7), if_neg h52]; rfl) hw3
    · skip
      refine V_iconst (v := -1) dX8_leave_55 (by decide) ?_
      refine V_goto 68 dX8_leave_56 (by decide) ?_
      refine V_iret dX8_leave_68 rfl (by decide) (by decide) ?_
      exact fin2 (by rw [mLeave, if_pos (bI_1 h7), if_pos h52]; try rfl) hw3
  · skip
    rw [if_neg (nb (bI_0 h7))] at hw1
    refine V_iconst (v := -1) dX8_leave_10 (by decide) ?_
    refine V_iret dX8_leave_11 rfl (by decide) (by decide) ?_
    exact fin2 (by rw [mLeave, if_neg (nb (bI_0 h7))]; try rfl) hw1
end MD2
end
