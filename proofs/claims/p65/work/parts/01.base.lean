-- ===== PART A: goes FIRST, ahead of the names: the tables' words, and 'selects' of the private methods out of them =====
/-- a private method of a class that the tables say can be made, by its rows of tables_1 -/
def lw_okq (q : MethodName × Nat) : Prop := (q.1.cls ≠ "java/lang/invoke/MethodHandle" ∧ q.1.cls ≠ "java/lang/invoke/VarHandle") ∧ Cond.instantiable q.1.cls q.2 ∈ tables_1 ∧ Cond.privateMethod q.1 ∈ tables_1 ∧ Cond.instanceMethod q.1 ∈ tables_1
theorem lw_p0 : lw_okq (⟨"CallForBrown$Reader", "advance", "()V"⟩, 7) := ⟨⟨by decide +kernel, by decide +kernel⟩, List.mem_of_getElem? (i := 30) (by decide +kernel), List.mem_of_getElem? (i := 370) (by decide +kernel), List.mem_of_getElem? (i := 371) (by decide +kernel)⟩
theorem lw_p1 : lw_okq (⟨"CallForBrown$Reader", "isBlank", "(I)Z"⟩, 7) := ⟨⟨by decide +kernel, by decide +kernel⟩, List.mem_of_getElem? (i := 30) (by decide +kernel), List.mem_of_getElem? (i := 378) (by decide +kernel), List.mem_of_getElem? (i := 379) (by decide +kernel)⟩
theorem lw_p2 : lw_okq (⟨"CallForBrown$Reader", "kindOf", "(I)I"⟩, 7) := ⟨⟨by decide +kernel, by decide +kernel⟩, List.mem_of_getElem? (i := 30) (by decide +kernel), List.mem_of_getElem? (i := 382) (by decide +kernel), List.mem_of_getElem? (i := 383) (by decide +kernel)⟩
theorem lw_p3 : lw_okq (⟨"CallForBrown$Reader", "readLine", "(LCallForBrown$House;)Z"⟩, 7) := ⟨⟨by decide +kernel, by decide +kernel⟩, List.mem_of_getElem? (i := 30) (by decide +kernel), List.mem_of_getElem? (i := 387) (by decide +kernel), List.mem_of_getElem? (i := 388) (by decide +kernel)⟩
theorem lw_p4 : lw_okq (⟨"CallForBrown$Reader", "isWord", "(Ljava/lang/String;)Z"⟩, 7) := ⟨⟨by decide +kernel, by decide +kernel⟩, List.mem_of_getElem? (i := 30) (by decide +kernel), List.mem_of_getElem? (i := 392) (by decide +kernel), List.mem_of_getElem? (i := 393) (by decide +kernel)⟩
theorem lw_p5 : lw_okq (⟨"CallForBrown$Reader", "fail", "(I)Z"⟩, 7) := ⟨⟨by decide +kernel, by decide +kernel⟩, List.mem_of_getElem? (i := 30) (by decide +kernel), List.mem_of_getElem? (i := 444) (by decide +kernel), List.mem_of_getElem? (i := 445) (by decide +kernel)⟩
theorem lw_p6 : lw_okq (⟨"CallForBrown$Reader", "readFirst", "(LCallForBrown$House;)Z"⟩, 7) := ⟨⟨by decide +kernel, by decide +kernel⟩, List.mem_of_getElem? (i := 30) (by decide +kernel), List.mem_of_getElem? (i := 448) (by decide +kernel), List.mem_of_getElem? (i := 449) (by decide +kernel)⟩
theorem lw_p7 : lw_okq (⟨"CallForBrown$Reader", "takeNamed", "(Ljava/lang/String;II)I"⟩, 7) := ⟨⟨by decide +kernel, by decide +kernel⟩, List.mem_of_getElem? (i := 30) (by decide +kernel), List.mem_of_getElem? (i := 453) (by decide +kernel), List.mem_of_getElem? (i := 454) (by decide +kernel)⟩
theorem lw_p8 : lw_okq (⟨"CallForBrown$Reader", "takeNumber", "(III)I"⟩, 7) := ⟨⟨by decide +kernel, by decide +kernel⟩, List.mem_of_getElem? (i := 30) (by decide +kernel), List.mem_of_getElem? (i := 457) (by decide +kernel), List.mem_of_getElem? (i := 458) (by decide +kernel)⟩
theorem lw_p9 : lw_okq (⟨"CallForBrown$Reader", "readRoom", "(LCallForBrown$House;)Z"⟩, 7) := ⟨⟨by decide +kernel, by decide +kernel⟩, List.mem_of_getElem? (i := 30) (by decide +kernel), List.mem_of_getElem? (i := 465) (by decide +kernel), List.mem_of_getElem? (i := 466) (by decide +kernel)⟩
theorem lw_p10 : lw_okq (⟨"CallForBrown$Reader", "readDoor", "(LCallForBrown$House;)Z"⟩, 7) := ⟨⟨by decide +kernel, by decide +kernel⟩, List.mem_of_getElem? (i := 30) (by decide +kernel), List.mem_of_getElem? (i := 480) (by decide +kernel), List.mem_of_getElem? (i := 481) (by decide +kernel)⟩
theorem lw_p11 : lw_okq (⟨"CallForBrown$Reader", "readMan", "(LCallForBrown$House;)Z"⟩, 7) := ⟨⟨by decide +kernel, by decide +kernel⟩, List.mem_of_getElem? (i := 30) (by decide +kernel), List.mem_of_getElem? (i := 493) (by decide +kernel), List.mem_of_getElem? (i := 494) (by decide +kernel)⟩
theorem lw_p12 : lw_okq (⟨"CallForBrown$Reader", "takeQuestions", "()I"⟩, 7) := ⟨⟨by decide +kernel, by decide +kernel⟩, List.mem_of_getElem? (i := 30) (by decide +kernel), List.mem_of_getElem? (i := 499) (by decide +kernel), List.mem_of_getElem? (i := 500) (by decide +kernel)⟩
theorem lw_p13 : lw_okq (⟨"CallForBrown$Reader", "readSlate", "(LCallForBrown$House;)Z"⟩, 7) := ⟨⟨by decide +kernel, by decide +kernel⟩, List.mem_of_getElem? (i := 30) (by decide +kernel), List.mem_of_getElem? (i := 508) (by decide +kernel), List.mem_of_getElem? (i := 509) (by decide +kernel)⟩
theorem lw_p14 : lw_okq (⟨"CallForBrown$Reader", "takeSign", "()Z"⟩, 7) := ⟨⟨by decide +kernel, by decide +kernel⟩, List.mem_of_getElem? (i := 30) (by decide +kernel), List.mem_of_getElem? (i := 517) (by decide +kernel), List.mem_of_getElem? (i := 518) (by decide +kernel)⟩
theorem lw_p15 : lw_okq (⟨"CallForBrown", "replay", "()V"⟩, 12) := ⟨⟨by decide +kernel, by decide +kernel⟩, List.mem_of_getElem? (i := 22) (by decide +kernel), List.mem_of_getElem? (i := 528) (by decide +kernel), List.mem_of_getElem? (i := 529) (by decide +kernel)⟩
def lw_privs_1 : List (MethodName × Nat) := [(⟨"CallForBrown$Reader", "advance", "()V"⟩, 7), (⟨"CallForBrown$Reader", "isBlank", "(I)Z"⟩, 7), (⟨"CallForBrown$Reader", "kindOf", "(I)I"⟩, 7), (⟨"CallForBrown$Reader", "readLine", "(LCallForBrown$House;)Z"⟩, 7), (⟨"CallForBrown$Reader", "isWord", "(Ljava/lang/String;)Z"⟩, 7), (⟨"CallForBrown$Reader", "fail", "(I)Z"⟩, 7), (⟨"CallForBrown$Reader", "readFirst", "(LCallForBrown$House;)Z"⟩, 7), (⟨"CallForBrown$Reader", "takeNamed", "(Ljava/lang/String;II)I"⟩, 7), (⟨"CallForBrown$Reader", "takeNumber", "(III)I"⟩, 7), (⟨"CallForBrown$Reader", "readRoom", "(LCallForBrown$House;)Z"⟩, 7), (⟨"CallForBrown$Reader", "readDoor", "(LCallForBrown$House;)Z"⟩, 7), (⟨"CallForBrown$Reader", "readMan", "(LCallForBrown$House;)Z"⟩, 7), (⟨"CallForBrown$Reader", "takeQuestions", "()I"⟩, 7), (⟨"CallForBrown$Reader", "readSlate", "(LCallForBrown$House;)Z"⟩, 7), (⟨"CallForBrown$Reader", "takeSign", "()Z"⟩, 7), (⟨"CallForBrown", "replay", "()V"⟩, 12)]
theorem lw_r1 : ∀ q ∈ lw_privs_1, lw_okq q := List.forall_mem_cons.mpr ⟨lw_p0, List.forall_mem_cons.mpr ⟨lw_p1, List.forall_mem_cons.mpr ⟨lw_p2, List.forall_mem_cons.mpr ⟨lw_p3, List.forall_mem_cons.mpr ⟨lw_p4, List.forall_mem_cons.mpr ⟨lw_p5, List.forall_mem_cons.mpr ⟨lw_p6, List.forall_mem_cons.mpr ⟨lw_p7, List.forall_mem_cons.mpr ⟨lw_p8, List.forall_mem_cons.mpr ⟨lw_p9, List.forall_mem_cons.mpr ⟨lw_p10, List.forall_mem_cons.mpr ⟨lw_p11, List.forall_mem_cons.mpr ⟨lw_p12, List.forall_mem_cons.mpr ⟨lw_p13, List.forall_mem_cons.mpr ⟨lw_p14, List.forall_mem_cons.mpr ⟨lw_p15, fun _ h => absurd h List.not_mem_nil⟩⟩⟩⟩⟩⟩⟩⟩⟩⟩⟩⟩⟩⟩⟩⟩
theorem lw_p16 : lw_okq (⟨"CallForBrown$Parts", "leave", "(LCallForBrown$House;I)V"⟩, 4) := ⟨⟨by decide +kernel, by decide +kernel⟩, List.mem_of_getElem? (i := 187) (by decide +kernel), List.mem_of_getElem? (i := 560) (by decide +kernel), List.mem_of_getElem? (i := 561) (by decide +kernel)⟩
theorem lw_p17 : lw_okq (⟨"CallForBrown", "isRoom", "(I)Z"⟩, 12) := ⟨⟨by decide +kernel, by decide +kernel⟩, List.mem_of_getElem? (i := 22) (by decide +kernel), List.mem_of_getElem? (i := 578) (by decide +kernel), List.mem_of_getElem? (i := 579) (by decide +kernel)⟩
theorem lw_p18 : lw_okq (⟨"CallForBrown", "isMan", "(I)Z"⟩, 12) := ⟨⟨by decide +kernel, by decide +kernel⟩, List.mem_of_getElem? (i := 22) (by decide +kernel), List.mem_of_getElem? (i := 591) (by decide +kernel), List.mem_of_getElem? (i := 592) (by decide +kernel)⟩
theorem lw_p19 : lw_okq (⟨"CallForBrown", "isRoomOrOut", "(I)Z"⟩, 12) := ⟨⟨by decide +kernel, by decide +kernel⟩, List.mem_of_getElem? (i := 22) (by decide +kernel), List.mem_of_getElem? (i := 608) (by decide +kernel), List.mem_of_getElem? (i := 609) (by decide +kernel)⟩
theorem lw_p20 : lw_okq (⟨"CallForBrown", "hasHouse", "()Z"⟩, 12) := ⟨⟨by decide +kernel, by decide +kernel⟩, List.mem_of_getElem? (i := 22) (by decide +kernel), List.mem_of_getElem? (i := 612) (by decide +kernel), List.mem_of_getElem? (i := 613) (by decide +kernel)⟩
theorem lw_p21 : lw_okq (⟨"CallForBrown", "askRound", "(IZ)I"⟩, 12) := ⟨⟨by decide +kernel, by decide +kernel⟩, List.mem_of_getElem? (i := 22) (by decide +kernel), List.mem_of_getElem? (i := 672) (by decide +kernel), List.mem_of_getElem? (i := 673) (by decide +kernel)⟩
theorem lw_p22 : lw_okq (⟨"CallForBrown", "askRow", "(IZI)I"⟩, 12) := ⟨⟨by decide +kernel, by decide +kernel⟩, List.mem_of_getElem? (i := 22) (by decide +kernel), List.mem_of_getElem? (i := 676) (by decide +kernel), List.mem_of_getElem? (i := 677) (by decide +kernel)⟩
theorem lw_p23 : lw_okq (⟨"CallForBrown", "isSlot", "(I)Z"⟩, 12) := ⟨⟨by decide +kernel, by decide +kernel⟩, List.mem_of_getElem? (i := 22) (by decide +kernel), List.mem_of_getElem? (i := 680) (by decide +kernel), List.mem_of_getElem? (i := 681) (by decide +kernel)⟩
theorem lw_p24 : lw_okq (⟨"CallForBrown", "foundIn", "(LCallForBrown$Row;I)I"⟩, 12) := ⟨⟨by decide +kernel, by decide +kernel⟩, List.mem_of_getElem? (i := 22) (by decide +kernel), List.mem_of_getElem? (i := 688) (by decide +kernel), List.mem_of_getElem? (i := 689) (by decide +kernel)⟩
theorem lw_p25 : lw_okq (⟨"CallForBrown", "gainOf", "(II)I"⟩, 12) := ⟨⟨by decide +kernel, by decide +kernel⟩, List.mem_of_getElem? (i := 22) (by decide +kernel), List.mem_of_getElem? (i := 709) (by decide +kernel), List.mem_of_getElem? (i := 710) (by decide +kernel)⟩
theorem lw_p26 : lw_okq (⟨"CallForBrown", "worthOf", "(I)I"⟩, 12) := ⟨⟨by decide +kernel, by decide +kernel⟩, List.mem_of_getElem? (i := 22) (by decide +kernel), List.mem_of_getElem? (i := 713) (by decide +kernel), List.mem_of_getElem? (i := 714) (by decide +kernel)⟩
theorem lw_p27 : lw_okq (⟨"CallForBrown", "isPartOfMillion", "(I)Z"⟩, 12) := ⟨⟨by decide +kernel, by decide +kernel⟩, List.mem_of_getElem? (i := 22) (by decide +kernel), List.mem_of_getElem? (i := 726) (by decide +kernel), List.mem_of_getElem? (i := 727) (by decide +kernel)⟩
theorem lw_p28 : lw_okq (⟨"CallForBrown", "canWalk", "(LCallForBrown$Row;I)Z"⟩, 12) := ⟨⟨by decide +kernel, by decide +kernel⟩, List.mem_of_getElem? (i := 22) (by decide +kernel), List.mem_of_getElem? (i := 734) (by decide +kernel), List.mem_of_getElem? (i := 735) (by decide +kernel)⟩
theorem lw_p29 : lw_okq (⟨"CallForBrown", "isBestLength", "(I)Z"⟩, 12) := ⟨⟨by decide +kernel, by decide +kernel⟩, List.mem_of_getElem? (i := 22) (by decide +kernel), List.mem_of_getElem? (i := 759) (by decide +kernel), List.mem_of_getElem? (i := 760) (by decide +kernel)⟩
theorem lw_p30 : lw_okq (⟨"CallForBrown$Boy", "seek", "(LCallForBrown$House;III)I"⟩, 3) := ⟨⟨by decide +kernel, by decide +kernel⟩, List.mem_of_getElem? (i := 208) (by decide +kernel), List.mem_of_getElem? (i := 768) (by decide +kernel), List.mem_of_getElem? (i := 769) (by decide +kernel)⟩
theorem lw_p31 : lw_okq (⟨"CallForBrown$Boy", "calling", "(LCallForBrown$House;III)I"⟩, 3) := ⟨⟨by decide +kernel, by decide +kernel⟩, List.mem_of_getElem? (i := 208) (by decide +kernel), List.mem_of_getElem? (i := 773) (by decide +kernel), List.mem_of_getElem? (i := 774) (by decide +kernel)⟩
def lw_privs_2 : List (MethodName × Nat) := [(⟨"CallForBrown$Parts", "leave", "(LCallForBrown$House;I)V"⟩, 4), (⟨"CallForBrown", "isRoom", "(I)Z"⟩, 12), (⟨"CallForBrown", "isMan", "(I)Z"⟩, 12), (⟨"CallForBrown", "isRoomOrOut", "(I)Z"⟩, 12), (⟨"CallForBrown", "hasHouse", "()Z"⟩, 12), (⟨"CallForBrown", "askRound", "(IZ)I"⟩, 12), (⟨"CallForBrown", "askRow", "(IZI)I"⟩, 12), (⟨"CallForBrown", "isSlot", "(I)Z"⟩, 12), (⟨"CallForBrown", "foundIn", "(LCallForBrown$Row;I)I"⟩, 12), (⟨"CallForBrown", "gainOf", "(II)I"⟩, 12), (⟨"CallForBrown", "worthOf", "(I)I"⟩, 12), (⟨"CallForBrown", "isPartOfMillion", "(I)Z"⟩, 12), (⟨"CallForBrown", "canWalk", "(LCallForBrown$Row;I)Z"⟩, 12), (⟨"CallForBrown", "isBestLength", "(I)Z"⟩, 12), (⟨"CallForBrown$Boy", "seek", "(LCallForBrown$House;III)I"⟩, 3), (⟨"CallForBrown$Boy", "calling", "(LCallForBrown$House;III)I"⟩, 3)]
theorem lw_r2 : ∀ q ∈ lw_privs_2, lw_okq q := List.forall_mem_cons.mpr ⟨lw_p16, List.forall_mem_cons.mpr ⟨lw_p17, List.forall_mem_cons.mpr ⟨lw_p18, List.forall_mem_cons.mpr ⟨lw_p19, List.forall_mem_cons.mpr ⟨lw_p20, List.forall_mem_cons.mpr ⟨lw_p21, List.forall_mem_cons.mpr ⟨lw_p22, List.forall_mem_cons.mpr ⟨lw_p23, List.forall_mem_cons.mpr ⟨lw_p24, List.forall_mem_cons.mpr ⟨lw_p25, List.forall_mem_cons.mpr ⟨lw_p26, List.forall_mem_cons.mpr ⟨lw_p27, List.forall_mem_cons.mpr ⟨lw_p28, List.forall_mem_cons.mpr ⟨lw_p29, List.forall_mem_cons.mpr ⟨lw_p30, List.forall_mem_cons.mpr ⟨lw_p31, fun _ h => absurd h List.not_mem_nil⟩⟩⟩⟩⟩⟩⟩⟩⟩⟩⟩⟩⟩⟩⟩⟩
theorem lw_p32 : lw_okq (⟨"CallForBrown$Boy", "keepWay", "(II)V"⟩, 3) := ⟨⟨by decide +kernel, by decide +kernel⟩, List.mem_of_getElem? (i := 208) (by decide +kernel), List.mem_of_getElem? (i := 779) (by decide +kernel), List.mem_of_getElem? (i := 780) (by decide +kernel)⟩
theorem lw_p33 : lw_okq (⟨"CallForBrown", "foundAtOnce", "(I)I"⟩, 12) := ⟨⟨by decide +kernel, by decide +kernel⟩, List.mem_of_getElem? (i := 22) (by decide +kernel), List.mem_of_getElem? (i := 827) (by decide +kernel), List.mem_of_getElem? (i := 828) (by decide +kernel)⟩
theorem lw_p34 : lw_okq (⟨"CallForBrown", "quietestSet", "(I)I"⟩, 12) := ⟨⟨by decide +kernel, by decide +kernel⟩, List.mem_of_getElem? (i := 22) (by decide +kernel), List.mem_of_getElem? (i := 836) (by decide +kernel), List.mem_of_getElem? (i := 837) (by decide +kernel)⟩
theorem lw_p35 : lw_okq (⟨"CallForBrown", "peopleOf", "(I)I"⟩, 12) := ⟨⟨by decide +kernel, by decide +kernel⟩, List.mem_of_getElem? (i := 22) (by decide +kernel), List.mem_of_getElem? (i := 840) (by decide +kernel), List.mem_of_getElem? (i := 841) (by decide +kernel)⟩
theorem lw_p36 : lw_okq (⟨"CallForBrown", "comesInto", "(II)I"⟩, 12) := ⟨⟨by decide +kernel, by decide +kernel⟩, List.mem_of_getElem? (i := 22) (by decide +kernel), List.mem_of_getElem? (i := 852) (by decide +kernel), List.mem_of_getElem? (i := 853) (by decide +kernel)⟩
theorem lw_p37 : lw_okq (⟨"CallForBrown$Chase", "reach", "(IIII)V"⟩, 7) := ⟨⟨by decide +kernel, by decide +kernel⟩, List.mem_of_getElem? (i := 229) (by decide +kernel), List.mem_of_getElem? (i := 872) (by decide +kernel), List.mem_of_getElem? (i := 873) (by decide +kernel)⟩
theorem lw_p38 : lw_okq (⟨"CallForBrown$Chase", "goOn", "(LCallForBrown$House;IZ)V"⟩, 7) := ⟨⟨by decide +kernel, by decide +kernel⟩, List.mem_of_getElem? (i := 229) (by decide +kernel), List.mem_of_getElem? (i := 876) (by decide +kernel), List.mem_of_getElem? (i := 877) (by decide +kernel)⟩
theorem lw_p39 : lw_okq (⟨"CallForBrown$Chase", "findLeaders", "(LCallForBrown$House;)V"⟩, 7) := ⟨⟨by decide +kernel, by decide +kernel⟩, List.mem_of_getElem? (i := 229) (by decide +kernel), List.mem_of_getElem? (i := 912) (by decide +kernel), List.mem_of_getElem? (i := 913) (by decide +kernel)⟩
theorem lw_p40 : lw_okq (⟨"CallForBrown", "isSet", "(I)Z"⟩, 12) := ⟨⟨by decide +kernel, by decide +kernel⟩, List.mem_of_getElem? (i := 22) (by decide +kernel), List.mem_of_getElem? (i := 929) (by decide +kernel), List.mem_of_getElem? (i := 930) (by decide +kernel)⟩
theorem lw_p41 : lw_okq (⟨"CallForBrown$Men", "fewestOf", "(LCallForBrown$House;I)I"⟩, 1) := ⟨⟨by decide +kernel, by decide +kernel⟩, List.mem_of_getElem? (i := 258) (by decide +kernel), List.mem_of_getElem? (i := 937) (by decide +kernel), List.mem_of_getElem? (i := 938) (by decide +kernel)⟩
theorem lw_p42 : lw_okq (⟨"CallForBrown$Men", "askedFirst", "(LCallForBrown$House;II)I"⟩, 1) := ⟨⟨by decide +kernel, by decide +kernel⟩, List.mem_of_getElem? (i := 258) (by decide +kernel), List.mem_of_getElem? (i := 942) (by decide +kernel), List.mem_of_getElem? (i := 943) (by decide +kernel)⟩
theorem lw_p43 : lw_okq (⟨"CallForBrown$Men", "areApart", "(LCallForBrown$House;II)Z"⟩, 1) := ⟨⟨by decide +kernel, by decide +kernel⟩, List.mem_of_getElem? (i := 258) (by decide +kernel), List.mem_of_getElem? (i := 975) (by decide +kernel), List.mem_of_getElem? (i := 976) (by decide +kernel)⟩
theorem lw_p44 : lw_okq (⟨"CallForBrown$Men", "greatestDivisor", "(JJ)J"⟩, 1) := ⟨⟨by decide +kernel, by decide +kernel⟩, List.mem_of_getElem? (i := 258) (by decide +kernel), List.mem_of_getElem? (i := 987) (by decide +kernel), List.mem_of_getElem? (i := 988) (by decide +kernel)⟩
theorem lw_p45 : lw_okq (⟨"CallForBrown$Men", "hasAs", "(LCallForBrown$House;II)I"⟩, 1) := ⟨⟨by decide +kernel, by decide +kernel⟩, List.mem_of_getElem? (i := 258) (by decide +kernel), List.mem_of_getElem? (i := 1000) (by decide +kernel), List.mem_of_getElem? (i := 1001) (by decide +kernel)⟩
theorem lw_p46 : lw_okq (⟨"CallForBrown$Men", "slateSum", "(LCallForBrown$House;I)I"⟩, 1) := ⟨⟨by decide +kernel, by decide +kernel⟩, List.mem_of_getElem? (i := 258) (by decide +kernel), List.mem_of_getElem? (i := 1004) (by decide +kernel), List.mem_of_getElem? (i := 1005) (by decide +kernel)⟩
theorem lw_p47 : lw_okq (⟨"CallForBrown$Men", "hasInAll", "(LCallForBrown$House;I)I"⟩, 1) := ⟨⟨by decide +kernel, by decide +kernel⟩, List.mem_of_getElem? (i := 258) (by decide +kernel), List.mem_of_getElem? (i := 1008) (by decide +kernel), List.mem_of_getElem? (i := 1009) (by decide +kernel)⟩
def lw_privs_3 : List (MethodName × Nat) := [(⟨"CallForBrown$Boy", "keepWay", "(II)V"⟩, 3), (⟨"CallForBrown", "foundAtOnce", "(I)I"⟩, 12), (⟨"CallForBrown", "quietestSet", "(I)I"⟩, 12), (⟨"CallForBrown", "peopleOf", "(I)I"⟩, 12), (⟨"CallForBrown", "comesInto", "(II)I"⟩, 12), (⟨"CallForBrown$Chase", "reach", "(IIII)V"⟩, 7), (⟨"CallForBrown$Chase", "goOn", "(LCallForBrown$House;IZ)V"⟩, 7), (⟨"CallForBrown$Chase", "findLeaders", "(LCallForBrown$House;)V"⟩, 7), (⟨"CallForBrown", "isSet", "(I)Z"⟩, 12), (⟨"CallForBrown$Men", "fewestOf", "(LCallForBrown$House;I)I"⟩, 1), (⟨"CallForBrown$Men", "askedFirst", "(LCallForBrown$House;II)I"⟩, 1), (⟨"CallForBrown$Men", "areApart", "(LCallForBrown$House;II)Z"⟩, 1), (⟨"CallForBrown$Men", "greatestDivisor", "(JJ)J"⟩, 1), (⟨"CallForBrown$Men", "hasAs", "(LCallForBrown$House;II)I"⟩, 1), (⟨"CallForBrown$Men", "slateSum", "(LCallForBrown$House;I)I"⟩, 1), (⟨"CallForBrown$Men", "hasInAll", "(LCallForBrown$House;I)I"⟩, 1)]
theorem lw_r3 : ∀ q ∈ lw_privs_3, lw_okq q := List.forall_mem_cons.mpr ⟨lw_p32, List.forall_mem_cons.mpr ⟨lw_p33, List.forall_mem_cons.mpr ⟨lw_p34, List.forall_mem_cons.mpr ⟨lw_p35, List.forall_mem_cons.mpr ⟨lw_p36, List.forall_mem_cons.mpr ⟨lw_p37, List.forall_mem_cons.mpr ⟨lw_p38, List.forall_mem_cons.mpr ⟨lw_p39, List.forall_mem_cons.mpr ⟨lw_p40, List.forall_mem_cons.mpr ⟨lw_p41, List.forall_mem_cons.mpr ⟨lw_p42, List.forall_mem_cons.mpr ⟨lw_p43, List.forall_mem_cons.mpr ⟨lw_p44, List.forall_mem_cons.mpr ⟨lw_p45, List.forall_mem_cons.mpr ⟨lw_p46, List.forall_mem_cons.mpr ⟨lw_p47, fun _ h => absurd h List.not_mem_nil⟩⟩⟩⟩⟩⟩⟩⟩⟩⟩⟩⟩⟩⟩⟩⟩
theorem lw_p48 : lw_okq (⟨"CallForBrown", "askHabits", "(IZ)I"⟩, 12) := ⟨⟨by decide +kernel, by decide +kernel⟩, List.mem_of_getElem? (i := 22) (by decide +kernel), List.mem_of_getElem? (i := 1029) (by decide +kernel), List.mem_of_getElem? (i := 1030) (by decide +kernel)⟩
theorem lw_p49 : lw_okq (⟨"CallForBrown", "mostFrequent", "(LCallForBrown$Row;I)I"⟩, 12) := ⟨⟨by decide +kernel, by decide +kernel⟩, List.mem_of_getElem? (i := 22) (by decide +kernel), List.mem_of_getElem? (i := 1033) (by decide +kernel), List.mem_of_getElem? (i := 1034) (by decide +kernel)⟩
theorem lw_p50 : lw_okq (⟨"CallForBrown", "isSeed", "(I)Z"⟩, 12) := ⟨⟨by decide +kernel, by decide +kernel⟩, List.mem_of_getElem? (i := 22) (by decide +kernel), List.mem_of_getElem? (i := 1057) (by decide +kernel), List.mem_of_getElem? (i := 1058) (by decide +kernel)⟩
theorem lw_p51 : lw_okq (⟨"CallForBrown$Evening", "takeSeat", "(LCallForBrown$House;)I"⟩, 3) := ⟨⟨by decide +kernel, by decide +kernel⟩, List.mem_of_getElem? (i := 268) (by decide +kernel), List.mem_of_getElem? (i := 1066) (by decide +kernel), List.mem_of_getElem? (i := 1067) (by decide +kernel)⟩
theorem lw_p52 : lw_okq (⟨"CallForBrown$Evening", "next", "(I)I"⟩, 3) := ⟨⟨by decide +kernel, by decide +kernel⟩, List.mem_of_getElem? (i := 268) (by decide +kernel), List.mem_of_getElem? (i := 1070) (by decide +kernel), List.mem_of_getElem? (i := 1071) (by decide +kernel)⟩
theorem lw_p53 : lw_okq (⟨"CallForBrown$Evening", "move", "(LCallForBrown$House;)V"⟩, 3) := ⟨⟨by decide +kernel, by decide +kernel⟩, List.mem_of_getElem? (i := 268) (by decide +kernel), List.mem_of_getElem? (i := 1080) (by decide +kernel), List.mem_of_getElem? (i := 1081) (by decide +kernel)⟩
theorem lw_p54 : lw_okq (⟨"CallForBrown", "countRows", "()I"⟩, 12) := ⟨⟨by decide +kernel, by decide +kernel⟩, List.mem_of_getElem? (i := 22) (by decide +kernel), List.mem_of_getElem? (i := 1113) (by decide +kernel), List.mem_of_getElem? (i := 1114) (by decide +kernel)⟩
theorem lw_p55 : lw_okq (⟨"CallForBrownModel", "advance", "()V"⟩, 35) := ⟨⟨by decide +kernel, by decide +kernel⟩, List.mem_of_getElem? (i := 1157) (by decide +kernel), List.mem_of_getElem? (i := 1297) (by decide +kernel), List.mem_of_getElem? (i := 1298) (by decide +kernel)⟩
theorem lw_p56 : lw_okq (⟨"CallForBrownModel", "see", "(I)I"⟩, 35) := ⟨⟨by decide +kernel, by decide +kernel⟩, List.mem_of_getElem? (i := 1157) (by decide +kernel), List.mem_of_getElem? (i := 1301) (by decide +kernel), List.mem_of_getElem? (i := 1302) (by decide +kernel)⟩
theorem lw_p57 : lw_okq (⟨"CallForBrownModel", "good", "()Z"⟩, 35) := ⟨⟨by decide +kernel, by decide +kernel⟩, List.mem_of_getElem? (i := 1157) (by decide +kernel), List.mem_of_getElem? (i := 1313) (by decide +kernel), List.mem_of_getElem? (i := 1314) (by decide +kernel)⟩
theorem lw_p58 : lw_okq (⟨"CallForBrownModel", "readLine", "()V"⟩, 35) := ⟨⟨by decide +kernel, by decide +kernel⟩, List.mem_of_getElem? (i := 1157) (by decide +kernel), List.mem_of_getElem? (i := 1317) (by decide +kernel), List.mem_of_getElem? (i := 1318) (by decide +kernel)⟩
theorem lw_p59 : lw_okq (⟨"CallForBrownModel", "needs", "(Ljava/lang/String;)V"⟩, 35) := ⟨⟨by decide +kernel, by decide +kernel⟩, List.mem_of_getElem? (i := 1157) (by decide +kernel), List.mem_of_getElem? (i := 1322) (by decide +kernel), List.mem_of_getElem? (i := 1323) (by decide +kernel)⟩
theorem lw_p60 : lw_okq (⟨"CallForBrownModel", "takes", "(Ljava/lang/String;)Z"⟩, 35) := ⟨⟨by decide +kernel, by decide +kernel⟩, List.mem_of_getElem? (i := 1157) (by decide +kernel), List.mem_of_getElem? (i := 1326) (by decide +kernel), List.mem_of_getElem? (i := 1327) (by decide +kernel)⟩
theorem lw_p61 : lw_okq (⟨"CallForBrownModel", "is", "(Ljava/lang/String;)Z"⟩, 35) := ⟨⟨by decide +kernel, by decide +kernel⟩, List.mem_of_getElem? (i := 1157) (by decide +kernel), List.mem_of_getElem? (i := 1330) (by decide +kernel), List.mem_of_getElem? (i := 1331) (by decide +kernel)⟩
theorem lw_p62 : lw_okq (⟨"CallForBrownModel", "errs", "(I)V"⟩, 35) := ⟨⟨by decide +kernel, by decide +kernel⟩, List.mem_of_getElem? (i := 1157) (by decide +kernel), List.mem_of_getElem? (i := 1336) (by decide +kernel), List.mem_of_getElem? (i := 1337) (by decide +kernel)⟩
theorem lw_p63 : lw_okq (⟨"CallForBrownModel", "told", "(Ljava/lang/String;II)I"⟩, 35) := ⟨⟨by decide +kernel, by decide +kernel⟩, List.mem_of_getElem? (i := 1157) (by decide +kernel), List.mem_of_getElem? (i := 1341) (by decide +kernel), List.mem_of_getElem? (i := 1342) (by decide +kernel)⟩
def lw_privs_4 : List (MethodName × Nat) := [(⟨"CallForBrown", "askHabits", "(IZ)I"⟩, 12), (⟨"CallForBrown", "mostFrequent", "(LCallForBrown$Row;I)I"⟩, 12), (⟨"CallForBrown", "isSeed", "(I)Z"⟩, 12), (⟨"CallForBrown$Evening", "takeSeat", "(LCallForBrown$House;)I"⟩, 3), (⟨"CallForBrown$Evening", "next", "(I)I"⟩, 3), (⟨"CallForBrown$Evening", "move", "(LCallForBrown$House;)V"⟩, 3), (⟨"CallForBrown", "countRows", "()I"⟩, 12), (⟨"CallForBrownModel", "advance", "()V"⟩, 35), (⟨"CallForBrownModel", "see", "(I)I"⟩, 35), (⟨"CallForBrownModel", "good", "()Z"⟩, 35), (⟨"CallForBrownModel", "readLine", "()V"⟩, 35), (⟨"CallForBrownModel", "needs", "(Ljava/lang/String;)V"⟩, 35), (⟨"CallForBrownModel", "takes", "(Ljava/lang/String;)Z"⟩, 35), (⟨"CallForBrownModel", "is", "(Ljava/lang/String;)Z"⟩, 35), (⟨"CallForBrownModel", "errs", "(I)V"⟩, 35), (⟨"CallForBrownModel", "told", "(Ljava/lang/String;II)I"⟩, 35)]
theorem lw_r4 : ∀ q ∈ lw_privs_4, lw_okq q := List.forall_mem_cons.mpr ⟨lw_p48, List.forall_mem_cons.mpr ⟨lw_p49, List.forall_mem_cons.mpr ⟨lw_p50, List.forall_mem_cons.mpr ⟨lw_p51, List.forall_mem_cons.mpr ⟨lw_p52, List.forall_mem_cons.mpr ⟨lw_p53, List.forall_mem_cons.mpr ⟨lw_p54, List.forall_mem_cons.mpr ⟨lw_p55, List.forall_mem_cons.mpr ⟨lw_p56, List.forall_mem_cons.mpr ⟨lw_p57, List.forall_mem_cons.mpr ⟨lw_p58, List.forall_mem_cons.mpr ⟨lw_p59, List.forall_mem_cons.mpr ⟨lw_p60, List.forall_mem_cons.mpr ⟨lw_p61, List.forall_mem_cons.mpr ⟨lw_p62, List.forall_mem_cons.mpr ⟨lw_p63, fun _ h => absurd h List.not_mem_nil⟩⟩⟩⟩⟩⟩⟩⟩⟩⟩⟩⟩⟩⟩⟩⟩
theorem lw_p64 : lw_okq (⟨"CallForBrownModel", "number", "(II)I"⟩, 35) := ⟨⟨by decide +kernel, by decide +kernel⟩, List.mem_of_getElem? (i := 1157) (by decide +kernel), List.mem_of_getElem? (i := 1345) (by decide +kernel), List.mem_of_getElem? (i := 1346) (by decide +kernel)⟩
theorem lw_p65 : lw_okq (⟨"CallForBrownModel", "readNext", "()V"⟩, 35) := ⟨⟨by decide +kernel, by decide +kernel⟩, List.mem_of_getElem? (i := 1157) (by decide +kernel), List.mem_of_getElem? (i := 1352) (by decide +kernel), List.mem_of_getElem? (i := 1353) (by decide +kernel)⟩
theorem lw_p66 : lw_okq (⟨"CallForBrownModel", "readRoom", "()V"⟩, 35) := ⟨⟨by decide +kernel, by decide +kernel⟩, List.mem_of_getElem? (i := 1157) (by decide +kernel), List.mem_of_getElem? (i := 1360) (by decide +kernel), List.mem_of_getElem? (i := 1361) (by decide +kernel)⟩
theorem lw_p67 : lw_okq (⟨"CallForBrownModel", "readDoor", "()V"⟩, 35) := ⟨⟨by decide +kernel, by decide +kernel⟩, List.mem_of_getElem? (i := 1157) (by decide +kernel), List.mem_of_getElem? (i := 1367) (by decide +kernel), List.mem_of_getElem? (i := 1368) (by decide +kernel)⟩
theorem lw_p68 : lw_okq (⟨"CallForBrownModel", "freshRoom", "()I"⟩, 35) := ⟨⟨by decide +kernel, by decide +kernel⟩, List.mem_of_getElem? (i := 1157) (by decide +kernel), List.mem_of_getElem? (i := 1371) (by decide +kernel), List.mem_of_getElem? (i := 1372) (by decide +kernel)⟩
theorem lw_p69 : lw_okq (⟨"CallForBrownModel", "readMan", "()V"⟩, 35) := ⟨⟨by decide +kernel, by decide +kernel⟩, List.mem_of_getElem? (i := 1157) (by decide +kernel), List.mem_of_getElem? (i := 1375) (by decide +kernel), List.mem_of_getElem? (i := 1376) (by decide +kernel)⟩
theorem lw_p70 : lw_okq (⟨"CallForBrownModel", "readSlate", "()V"⟩, 35) := ⟨⟨by decide +kernel, by decide +kernel⟩, List.mem_of_getElem? (i := 1157) (by decide +kernel), List.mem_of_getElem? (i := 1381) (by decide +kernel), List.mem_of_getElem? (i := 1382) (by decide +kernel)⟩
theorem lw_p71 : lw_okq (⟨"CallForBrownModel", "freshMan", "()I"⟩, 35) := ⟨⟨by decide +kernel, by decide +kernel⟩, List.mem_of_getElem? (i := 1157) (by decide +kernel), List.mem_of_getElem? (i := 1385) (by decide +kernel), List.mem_of_getElem? (i := 1386) (by decide +kernel)⟩
theorem lw_p72 : lw_okq (⟨"CallForBrownModel", "isRoom", "(J)Z"⟩, 35) := ⟨⟨by decide +kernel, by decide +kernel⟩, List.mem_of_getElem? (i := 1157) (by decide +kernel), List.mem_of_getElem? (i := 1394) (by decide +kernel), List.mem_of_getElem? (i := 1395) (by decide +kernel)⟩
theorem lw_p73 : lw_okq (⟨"CallForBrownModel", "of", "(II)I"⟩, 35) := ⟨⟨by decide +kernel, by decide +kernel⟩, List.mem_of_getElem? (i := 1157) (by decide +kernel), List.mem_of_getElem? (i := 1399) (by decide +kernel), List.mem_of_getElem? (i := 1400) (by decide +kernel)⟩
theorem lw_p74 : lw_okq (⟨"CallForBrownModel", "isMan", "(I)Z"⟩, 35) := ⟨⟨by decide +kernel, by decide +kernel⟩, List.mem_of_getElem? (i := 1157) (by decide +kernel), List.mem_of_getElem? (i := 1407) (by decide +kernel), List.mem_of_getElem? (i := 1408) (by decide +kernel)⟩
theorem lw_p75 : lw_okq (⟨"CallForBrownModel", "ofMan", "(II)I"⟩, 35) := ⟨⟨by decide +kernel, by decide +kernel⟩, List.mem_of_getElem? (i := 1157) (by decide +kernel), List.mem_of_getElem? (i := 1411) (by decide +kernel), List.mem_of_getElem? (i := 1412) (by decide +kernel)⟩
theorem lw_p76 : lw_okq (⟨"CallForBrownModel", "hearsBy", "(II)I"⟩, 35) := ⟨⟨by decide +kernel, by decide +kernel⟩, List.mem_of_getElem? (i := 1157) (by decide +kernel), List.mem_of_getElem? (i := 1424) (by decide +kernel), List.mem_of_getElem? (i := 1425) (by decide +kernel)⟩
theorem lw_p77 : lw_okq (⟨"CallForBrownModel", "isRoomOrNone", "(J)Z"⟩, 35) := ⟨⟨by decide +kernel, by decide +kernel⟩, List.mem_of_getElem? (i := 1157) (by decide +kernel), List.mem_of_getElem? (i := 1432) (by decide +kernel), List.mem_of_getElem? (i := 1433) (by decide +kernel)⟩
theorem lw_p78 : lw_okq (⟨"CallForBrownModel", "isHouse", "()Z"⟩, 35) := ⟨⟨by decide +kernel, by decide +kernel⟩, List.mem_of_getElem? (i := 1157) (by decide +kernel), List.mem_of_getElem? (i := 1436) (by decide +kernel), List.mem_of_getElem? (i := 1437) (by decide +kernel)⟩
theorem lw_p79 : lw_okq (⟨"CallForBrownModel", "asItIs", "()V"⟩, 35) := ⟨⟨by decide +kernel, by decide +kernel⟩, List.mem_of_getElem? (i := 1157) (by decide +kernel), List.mem_of_getElem? (i := 1441) (by decide +kernel), List.mem_of_getElem? (i := 1442) (by decide +kernel)⟩
def lw_privs_5 : List (MethodName × Nat) := [(⟨"CallForBrownModel", "number", "(II)I"⟩, 35), (⟨"CallForBrownModel", "readNext", "()V"⟩, 35), (⟨"CallForBrownModel", "readRoom", "()V"⟩, 35), (⟨"CallForBrownModel", "readDoor", "()V"⟩, 35), (⟨"CallForBrownModel", "freshRoom", "()I"⟩, 35), (⟨"CallForBrownModel", "readMan", "()V"⟩, 35), (⟨"CallForBrownModel", "readSlate", "()V"⟩, 35), (⟨"CallForBrownModel", "freshMan", "()I"⟩, 35), (⟨"CallForBrownModel", "isRoom", "(J)Z"⟩, 35), (⟨"CallForBrownModel", "of", "(II)I"⟩, 35), (⟨"CallForBrownModel", "isMan", "(I)Z"⟩, 35), (⟨"CallForBrownModel", "ofMan", "(II)I"⟩, 35), (⟨"CallForBrownModel", "hearsBy", "(II)I"⟩, 35), (⟨"CallForBrownModel", "isRoomOrNone", "(J)Z"⟩, 35), (⟨"CallForBrownModel", "isHouse", "()Z"⟩, 35), (⟨"CallForBrownModel", "asItIs", "()V"⟩, 35)]
theorem lw_r5 : ∀ q ∈ lw_privs_5, lw_okq q := List.forall_mem_cons.mpr ⟨lw_p64, List.forall_mem_cons.mpr ⟨lw_p65, List.forall_mem_cons.mpr ⟨lw_p66, List.forall_mem_cons.mpr ⟨lw_p67, List.forall_mem_cons.mpr ⟨lw_p68, List.forall_mem_cons.mpr ⟨lw_p69, List.forall_mem_cons.mpr ⟨lw_p70, List.forall_mem_cons.mpr ⟨lw_p71, List.forall_mem_cons.mpr ⟨lw_p72, List.forall_mem_cons.mpr ⟨lw_p73, List.forall_mem_cons.mpr ⟨lw_p74, List.forall_mem_cons.mpr ⟨lw_p75, List.forall_mem_cons.mpr ⟨lw_p76, List.forall_mem_cons.mpr ⟨lw_p77, List.forall_mem_cons.mpr ⟨lw_p78, List.forall_mem_cons.mpr ⟨lw_p79, fun _ h => absurd h List.not_mem_nil⟩⟩⟩⟩⟩⟩⟩⟩⟩⟩⟩⟩⟩⟩⟩⟩
theorem lw_p80 : lw_okq (⟨"CallForBrownModel", "beAtFirst", "()V"⟩, 35) := ⟨⟨by decide +kernel, by decide +kernel⟩, List.mem_of_getElem? (i := 1157) (by decide +kernel), List.mem_of_getElem? (i := 1445) (by decide +kernel), List.mem_of_getElem? (i := 1446) (by decide +kernel)⟩
theorem lw_p81 : lw_okq (⟨"CallForBrownModel", "allSits", "()I"⟩, 35) := ⟨⟨by decide +kernel, by decide +kernel⟩, List.mem_of_getElem? (i := 1157) (by decide +kernel), List.mem_of_getElem? (i := 1449) (by decide +kernel), List.mem_of_getElem? (i := 1450) (by decide +kernel)⟩
theorem lw_p82 : lw_okq (⟨"CallForBrownModel", "callIn", "(II)I"⟩, 35) := ⟨⟨by decide +kernel, by decide +kernel⟩, List.mem_of_getElem? (i := 1157) (by decide +kernel), List.mem_of_getElem? (i := 1454) (by decide +kernel), List.mem_of_getElem? (i := 1455) (by decide +kernel)⟩
theorem lw_p83 : lw_okq (⟨"CallForBrownModel", "wouldFind", "(II)I"⟩, 35) := ⟨⟨by decide +kernel, by decide +kernel⟩, List.mem_of_getElem? (i := 1157) (by decide +kernel), List.mem_of_getElem? (i := 1458) (by decide +kernel), List.mem_of_getElem? (i := 1459) (by decide +kernel)⟩
theorem lw_p84 : lw_okq (⟨"CallForBrownModel", "goMinute", "(I)V"⟩, 35) := ⟨⟨by decide +kernel, by decide +kernel⟩, List.mem_of_getElem? (i := 1157) (by decide +kernel), List.mem_of_getElem? (i := 1462) (by decide +kernel), List.mem_of_getElem? (i := 1463) (by decide +kernel)⟩
theorem lw_p85 : lw_okq (⟨"CallForBrownModel", "inHouse", "()I"⟩, 35) := ⟨⟨by decide +kernel, by decide +kernel⟩, List.mem_of_getElem? (i := 1157) (by decide +kernel), List.mem_of_getElem? (i := 1484) (by decide +kernel), List.mem_of_getElem? (i := 1485) (by decide +kernel)⟩
theorem lw_p86 : lw_okq (⟨"CallForBrownModel", "inMillion", "(I)I"⟩, 35) := ⟨⟨by decide +kernel, by decide +kernel⟩, List.mem_of_getElem? (i := 1157) (by decide +kernel), List.mem_of_getElem? (i := 1488) (by decide +kernel), List.mem_of_getElem? (i := 1489) (by decide +kernel)⟩
theorem lw_p87 : lw_okq (⟨"CallForBrownModel", "asksRound", "(IZ)I"⟩, 35) := ⟨⟨by decide +kernel, by decide +kernel⟩, List.mem_of_getElem? (i := 1157) (by decide +kernel), List.mem_of_getElem? (i := 1518) (by decide +kernel), List.mem_of_getElem? (i := 1519) (by decide +kernel)⟩
theorem lw_p88 : lw_okq (⟨"CallForBrownModel", "numberAt", "(II)J"⟩, 35) := ⟨⟨by decide +kernel, by decide +kernel⟩, List.mem_of_getElem? (i := 1157) (by decide +kernel), List.mem_of_getElem? (i := 1525) (by decide +kernel), List.mem_of_getElem? (i := 1526) (by decide +kernel)⟩
theorem lw_p89 : lw_okq (⟨"CallForBrownModel", "goRound", "(III)I"⟩, 35) := ⟨⟨by decide +kernel, by decide +kernel⟩, List.mem_of_getElem? (i := 1157) (by decide +kernel), List.mem_of_getElem? (i := 1529) (by decide +kernel), List.mem_of_getElem? (i := 1530) (by decide +kernel)⟩
theorem lw_p90 : lw_okq (⟨"CallForBrownModel", "roomAt", "(II)I"⟩, 35) := ⟨⟨by decide +kernel, by decide +kernel⟩, List.mem_of_getElem? (i := 1157) (by decide +kernel), List.mem_of_getElem? (i := 1533) (by decide +kernel), List.mem_of_getElem? (i := 1534) (by decide +kernel)⟩
theorem lw_p91 : lw_okq (⟨"CallForBrownModel", "gainOf", "(III)I"⟩, 35) := ⟨⟨by decide +kernel, by decide +kernel⟩, List.mem_of_getElem? (i := 1157) (by decide +kernel), List.mem_of_getElem? (i := 1551) (by decide +kernel), List.mem_of_getElem? (i := 1552) (by decide +kernel)⟩
theorem lw_p92 : lw_okq (⟨"CallForBrownModel", "worthOf", "(I)I"⟩, 35) := ⟨⟨by decide +kernel, by decide +kernel⟩, List.mem_of_getElem? (i := 1157) (by decide +kernel), List.mem_of_getElem? (i := 1555) (by decide +kernel), List.mem_of_getElem? (i := 1556) (by decide +kernel)⟩
theorem lw_p93 : lw_okq (⟨"CallForBrownModel", "canWalk", "(II)Z"⟩, 35) := ⟨⟨by decide +kernel, by decide +kernel⟩, List.mem_of_getElem? (i := 1157) (by decide +kernel), List.mem_of_getElem? (i := 1571) (by decide +kernel), List.mem_of_getElem? (i := 1572) (by decide +kernel)⟩
theorem lw_p94 : lw_okq (⟨"CallForBrownModel", "goesTo", "(II)Z"⟩, 35) := ⟨⟨by decide +kernel, by decide +kernel⟩, List.mem_of_getElem? (i := 1157) (by decide +kernel), List.mem_of_getElem? (i := 1575) (by decide +kernel), List.mem_of_getElem? (i := 1576) (by decide +kernel)⟩
theorem lw_p95 : lw_okq (⟨"CallForBrownModel", "bestFrom", "(II)I"⟩, 35) := ⟨⟨by decide +kernel, by decide +kernel⟩, List.mem_of_getElem? (i := 1157) (by decide +kernel), List.mem_of_getElem? (i := 1592) (by decide +kernel), List.mem_of_getElem? (i := 1593) (by decide +kernel)⟩
def lw_privs_6 : List (MethodName × Nat) := [(⟨"CallForBrownModel", "beAtFirst", "()V"⟩, 35), (⟨"CallForBrownModel", "allSits", "()I"⟩, 35), (⟨"CallForBrownModel", "callIn", "(II)I"⟩, 35), (⟨"CallForBrownModel", "wouldFind", "(II)I"⟩, 35), (⟨"CallForBrownModel", "goMinute", "(I)V"⟩, 35), (⟨"CallForBrownModel", "inHouse", "()I"⟩, 35), (⟨"CallForBrownModel", "inMillion", "(I)I"⟩, 35), (⟨"CallForBrownModel", "asksRound", "(IZ)I"⟩, 35), (⟨"CallForBrownModel", "numberAt", "(II)J"⟩, 35), (⟨"CallForBrownModel", "goRound", "(III)I"⟩, 35), (⟨"CallForBrownModel", "roomAt", "(II)I"⟩, 35), (⟨"CallForBrownModel", "gainOf", "(III)I"⟩, 35), (⟨"CallForBrownModel", "worthOf", "(I)I"⟩, 35), (⟨"CallForBrownModel", "canWalk", "(II)Z"⟩, 35), (⟨"CallForBrownModel", "goesTo", "(II)Z"⟩, 35), (⟨"CallForBrownModel", "bestFrom", "(II)I"⟩, 35)]
theorem lw_r6 : ∀ q ∈ lw_privs_6, lw_okq q := List.forall_mem_cons.mpr ⟨lw_p80, List.forall_mem_cons.mpr ⟨lw_p81, List.forall_mem_cons.mpr ⟨lw_p82, List.forall_mem_cons.mpr ⟨lw_p83, List.forall_mem_cons.mpr ⟨lw_p84, List.forall_mem_cons.mpr ⟨lw_p85, List.forall_mem_cons.mpr ⟨lw_p86, List.forall_mem_cons.mpr ⟨lw_p87, List.forall_mem_cons.mpr ⟨lw_p88, List.forall_mem_cons.mpr ⟨lw_p89, List.forall_mem_cons.mpr ⟨lw_p90, List.forall_mem_cons.mpr ⟨lw_p91, List.forall_mem_cons.mpr ⟨lw_p92, List.forall_mem_cons.mpr ⟨lw_p93, List.forall_mem_cons.mpr ⟨lw_p94, List.forall_mem_cons.mpr ⟨lw_p95, fun _ h => absurd h List.not_mem_nil⟩⟩⟩⟩⟩⟩⟩⟩⟩⟩⟩⟩⟩⟩⟩⟩
theorem lw_p96 : lw_okq (⟨"CallForBrownModel", "isWay", "(II)Z"⟩, 35) := ⟨⟨by decide +kernel, by decide +kernel⟩, List.mem_of_getElem? (i := 1157) (by decide +kernel), List.mem_of_getElem? (i := 1596) (by decide +kernel), List.mem_of_getElem? (i := 1597) (by decide +kernel)⟩
theorem lw_p97 : lw_okq (⟨"CallForBrownModel", "nextWay", "(I)Z"⟩, 35) := ⟨⟨by decide +kernel, by decide +kernel⟩, List.mem_of_getElem? (i := 1157) (by decide +kernel), List.mem_of_getElem? (i := 1600) (by decide +kernel), List.mem_of_getElem? (i := 1601) (by decide +kernel)⟩
theorem lw_p98 : lw_okq (⟨"CallForBrownModel", "wider", "(I)I"⟩, 35) := ⟨⟨by decide +kernel, by decide +kernel⟩, List.mem_of_getElem? (i := 1157) (by decide +kernel), List.mem_of_getElem? (i := 1620) (by decide +kernel), List.mem_of_getElem? (i := 1621) (by decide +kernel)⟩
theorem lw_p99 : lw_okq (⟨"CallForBrownModel", "quietBy", "(I)I"⟩, 35) := ⟨⟨by decide +kernel, by decide +kernel⟩, List.mem_of_getElem? (i := 1157) (by decide +kernel), List.mem_of_getElem? (i := 1636) (by decide +kernel), List.mem_of_getElem? (i := 1637) (by decide +kernel)⟩
theorem lw_p100 : lw_okq (⟨"CallForBrownModel", "allRooms", "()I"⟩, 35) := ⟨⟨by decide +kernel, by decide +kernel⟩, List.mem_of_getElem? (i := 1157) (by decide +kernel), List.mem_of_getElem? (i := 1641) (by decide +kernel), List.mem_of_getElem? (i := 1642) (by decide +kernel)⟩
theorem lw_p101 : lw_okq (⟨"CallForBrownModel", "cardIn", "(II)I"⟩, 35) := ⟨⟨by decide +kernel, by decide +kernel⟩, List.mem_of_getElem? (i := 1157) (by decide +kernel), List.mem_of_getElem? (i := 1653) (by decide +kernel), List.mem_of_getElem? (i := 1654) (by decide +kernel)⟩
theorem lw_p102 : lw_okq (⟨"CallForBrownModel", "chase", "(IIZ)I"⟩, 35) := ⟨⟨by decide +kernel, by decide +kernel⟩, List.mem_of_getElem? (i := 1157) (by decide +kernel), List.mem_of_getElem? (i := 1665) (by decide +kernel), List.mem_of_getElem? (i := 1666) (by decide +kernel)⟩
theorem lw_p103 : lw_okq (⟨"CallForBrownModel", "meet", "(III)V"⟩, 35) := ⟨⟨by decide +kernel, by decide +kernel⟩, List.mem_of_getElem? (i := 1157) (by decide +kernel), List.mem_of_getElem? (i := 1672) (by decide +kernel), List.mem_of_getElem? (i := 1673) (by decide +kernel)⟩
theorem lw_p104 : lw_okq (⟨"CallForBrownModel", "farTo", "(I)I"⟩, 35) := ⟨⟨by decide +kernel, by decide +kernel⟩, List.mem_of_getElem? (i := 1157) (by decide +kernel), List.mem_of_getElem? (i := 1676) (by decide +kernel), List.mem_of_getElem? (i := 1677) (by decide +kernel)⟩
theorem lw_p105 : lw_okq (⟨"CallForBrownModel", "areMen", "(I)Z"⟩, 35) := ⟨⟨by decide +kernel, by decide +kernel⟩, List.mem_of_getElem? (i := 1157) (by decide +kernel), List.mem_of_getElem? (i := 1705) (by decide +kernel), List.mem_of_getElem? (i := 1706) (by decide +kernel)⟩
theorem lw_p106 : lw_okq (⟨"CallForBrownModel", "fillAsked", "()V"⟩, 35) := ⟨⟨by decide +kernel, by decide +kernel⟩, List.mem_of_getElem? (i := 1157) (by decide +kernel), List.mem_of_getElem? (i := 1709) (by decide +kernel), List.mem_of_getElem? (i := 1710) (by decide +kernel)⟩
theorem lw_p107 : lw_okq (⟨"CallForBrownModel", "askedBy", "(II)I"⟩, 35) := ⟨⟨by decide +kernel, by decide +kernel⟩, List.mem_of_getElem? (i := 1157) (by decide +kernel), List.mem_of_getElem? (i := 1713) (by decide +kernel), List.mem_of_getElem? (i := 1714) (by decide +kernel)⟩
theorem lw_p108 : lw_okq (⟨"CallForBrownModel", "saying", "(II)I"⟩, 35) := ⟨⟨by decide +kernel, by decide +kernel⟩, List.mem_of_getElem? (i := 1157) (by decide +kernel), List.mem_of_getElem? (i := 1717) (by decide +kernel), List.mem_of_getElem? (i := 1718) (by decide +kernel)⟩
theorem lw_p109 : lw_okq (⟨"CallForBrownModel", "tellsApart", "(II)Z"⟩, 35) := ⟨⟨by decide +kernel, by decide +kernel⟩, List.mem_of_getElem? (i := 1157) (by decide +kernel), List.mem_of_getElem? (i := 1734) (by decide +kernel), List.mem_of_getElem? (i := 1735) (by decide +kernel)⟩
theorem lw_p110 : lw_okq (⟨"CallForBrownModel", "allRead", "(I)J"⟩, 35) := ⟨⟨by decide +kernel, by decide +kernel⟩, List.mem_of_getElem? (i := 1157) (by decide +kernel), List.mem_of_getElem? (i := 1753) (by decide +kernel), List.mem_of_getElem? (i := 1754) (by decide +kernel)⟩
theorem lw_p111 : lw_okq (⟨"CallForBrownModel", "likelyRead", "(II)J"⟩, 35) := ⟨⟨by decide +kernel, by decide +kernel⟩, List.mem_of_getElem? (i := 1157) (by decide +kernel), List.mem_of_getElem? (i := 1757) (by decide +kernel), List.mem_of_getElem? (i := 1758) (by decide +kernel)⟩
def lw_privs_7 : List (MethodName × Nat) := [(⟨"CallForBrownModel", "isWay", "(II)Z"⟩, 35), (⟨"CallForBrownModel", "nextWay", "(I)Z"⟩, 35), (⟨"CallForBrownModel", "wider", "(I)I"⟩, 35), (⟨"CallForBrownModel", "quietBy", "(I)I"⟩, 35), (⟨"CallForBrownModel", "allRooms", "()I"⟩, 35), (⟨"CallForBrownModel", "cardIn", "(II)I"⟩, 35), (⟨"CallForBrownModel", "chase", "(IIZ)I"⟩, 35), (⟨"CallForBrownModel", "meet", "(III)V"⟩, 35), (⟨"CallForBrownModel", "farTo", "(I)I"⟩, 35), (⟨"CallForBrownModel", "areMen", "(I)Z"⟩, 35), (⟨"CallForBrownModel", "fillAsked", "()V"⟩, 35), (⟨"CallForBrownModel", "askedBy", "(II)I"⟩, 35), (⟨"CallForBrownModel", "saying", "(II)I"⟩, 35), (⟨"CallForBrownModel", "tellsApart", "(II)Z"⟩, 35), (⟨"CallForBrownModel", "allRead", "(I)J"⟩, 35), (⟨"CallForBrownModel", "likelyRead", "(II)J"⟩, 35)]
theorem lw_r7 : ∀ q ∈ lw_privs_7, lw_okq q := List.forall_mem_cons.mpr ⟨lw_p96, List.forall_mem_cons.mpr ⟨lw_p97, List.forall_mem_cons.mpr ⟨lw_p98, List.forall_mem_cons.mpr ⟨lw_p99, List.forall_mem_cons.mpr ⟨lw_p100, List.forall_mem_cons.mpr ⟨lw_p101, List.forall_mem_cons.mpr ⟨lw_p102, List.forall_mem_cons.mpr ⟨lw_p103, List.forall_mem_cons.mpr ⟨lw_p104, List.forall_mem_cons.mpr ⟨lw_p105, List.forall_mem_cons.mpr ⟨lw_p106, List.forall_mem_cons.mpr ⟨lw_p107, List.forall_mem_cons.mpr ⟨lw_p108, List.forall_mem_cons.mpr ⟨lw_p109, List.forall_mem_cons.mpr ⟨lw_p110, List.forall_mem_cons.mpr ⟨lw_p111, fun _ h => absurd h List.not_mem_nil⟩⟩⟩⟩⟩⟩⟩⟩⟩⟩⟩⟩⟩⟩⟩⟩
theorem lw_p112 : lw_okq (⟨"CallForBrownModel", "slateOf", "(II)J"⟩, 35) := ⟨⟨by decide +kernel, by decide +kernel⟩, List.mem_of_getElem? (i := 1157) (by decide +kernel), List.mem_of_getElem? (i := 1761) (by decide +kernel), List.mem_of_getElem? (i := 1762) (by decide +kernel)⟩
theorem lw_p113 : lw_okq (⟨"CallForBrownModel", "slateAll", "(I)J"⟩, 35) := ⟨⟨by decide +kernel, by decide +kernel⟩, List.mem_of_getElem? (i := 1157) (by decide +kernel), List.mem_of_getElem? (i := 1765) (by decide +kernel), List.mem_of_getElem? (i := 1766) (by decide +kernel)⟩
theorem lw_p114 : lw_okq (⟨"CallForBrownModel", "asksHabit", "(IZ)I"⟩, 35) := ⟨⟨by decide +kernel, by decide +kernel⟩, List.mem_of_getElem? (i := 1157) (by decide +kernel), List.mem_of_getElem? (i := 1781) (by decide +kernel), List.mem_of_getElem? (i := 1782) (by decide +kernel)⟩
theorem lw_p115 : lw_okq (⟨"CallForBrownModel", "oftenest", "(II)I"⟩, 35) := ⟨⟨by decide +kernel, by decide +kernel⟩, List.mem_of_getElem? (i := 1157) (by decide +kernel), List.mem_of_getElem? (i := 1785) (by decide +kernel), List.mem_of_getElem? (i := 1786) (by decide +kernel)⟩
theorem lw_p116 : lw_okq (⟨"CallForBrownModel", "goEvening", "(JI)V"⟩, 35) := ⟨⟨by decide +kernel, by decide +kernel⟩, List.mem_of_getElem? (i := 1157) (by decide +kernel), List.mem_of_getElem? (i := 1805) (by decide +kernel), List.mem_of_getElem? (i := 1806) (by decide +kernel)⟩
theorem lw_p117 : lw_okq (⟨"CallForBrownModel", "firstRoom", "()I"⟩, 35) := ⟨⟨by decide +kernel, by decide +kernel⟩, List.mem_of_getElem? (i := 1157) (by decide +kernel), List.mem_of_getElem? (i := 1809) (by decide +kernel), List.mem_of_getElem? (i := 1810) (by decide +kernel)⟩
theorem lw_p118 : lw_okq (⟨"CallForBrownModel", "draw", "(I)I"⟩, 35) := ⟨⟨by decide +kernel, by decide +kernel⟩, List.mem_of_getElem? (i := 1157) (by decide +kernel), List.mem_of_getElem? (i := 1813) (by decide +kernel), List.mem_of_getElem? (i := 1814) (by decide +kernel)⟩
theorem lw_p119 : lw_okq (⟨"CallForBrownModel", "doorFrom", "(II)I"⟩, 35) := ⟨⟨by decide +kernel, by decide +kernel⟩, List.mem_of_getElem? (i := 1157) (by decide +kernel), List.mem_of_getElem? (i := 1821) (by decide +kernel), List.mem_of_getElem? (i := 1822) (by decide +kernel)⟩
theorem lw_p120 : lw_okq (⟨"CallForBrownModel", "door", "(III)V"⟩, 35) := ⟨⟨by decide +kernel, by decide +kernel⟩, List.mem_of_getElem? (i := 1157) (by decide +kernel), List.mem_of_getElem? (i := 1841) (by decide +kernel), List.mem_of_getElem? (i := 1842) (by decide +kernel)⟩
def lw_privs_8 : List (MethodName × Nat) := [(⟨"CallForBrownModel", "slateOf", "(II)J"⟩, 35), (⟨"CallForBrownModel", "slateAll", "(I)J"⟩, 35), (⟨"CallForBrownModel", "asksHabit", "(IZ)I"⟩, 35), (⟨"CallForBrownModel", "oftenest", "(II)I"⟩, 35), (⟨"CallForBrownModel", "goEvening", "(JI)V"⟩, 35), (⟨"CallForBrownModel", "firstRoom", "()I"⟩, 35), (⟨"CallForBrownModel", "draw", "(I)I"⟩, 35), (⟨"CallForBrownModel", "doorFrom", "(II)I"⟩, 35), (⟨"CallForBrownModel", "door", "(III)V"⟩, 35)]
theorem lw_r8 : ∀ q ∈ lw_privs_8, lw_okq q := List.forall_mem_cons.mpr ⟨lw_p112, List.forall_mem_cons.mpr ⟨lw_p113, List.forall_mem_cons.mpr ⟨lw_p114, List.forall_mem_cons.mpr ⟨lw_p115, List.forall_mem_cons.mpr ⟨lw_p116, List.forall_mem_cons.mpr ⟨lw_p117, List.forall_mem_cons.mpr ⟨lw_p118, List.forall_mem_cons.mpr ⟨lw_p119, List.forall_mem_cons.mpr ⟨lw_p120, fun _ h => absurd h List.not_mem_nil⟩⟩⟩⟩⟩⟩⟩⟩⟩
def lw_privs : List (MethodName × Nat) := lw_privs_1 ++ (lw_privs_2 ++ (lw_privs_3 ++ (lw_privs_4 ++ (lw_privs_5 ++ (lw_privs_6 ++ (lw_privs_7 ++ (lw_privs_8)))))))
def lw_tbl : List Cond := k2_sels lw_privs ++ tables_1
theorem lw_privs_ok : ∀ q ∈ lw_privs, lw_okq q := by
  show ∀ q ∈ lw_privs_1 ++ (lw_privs_2 ++ (lw_privs_3 ++ (lw_privs_4 ++ (lw_privs_5 ++ (lw_privs_6 ++ (lw_privs_7 ++ (lw_privs_8))))))), lw_okq q
  exact List.forall_mem_append.mpr ⟨lw_r1, List.forall_mem_append.mpr ⟨lw_r2, List.forall_mem_append.mpr ⟨lw_r3, List.forall_mem_append.mpr ⟨lw_r4, List.forall_mem_append.mpr ⟨lw_r5, List.forall_mem_append.mpr ⟨lw_r6, List.forall_mem_append.mpr ⟨lw_r7, lw_r8⟩⟩⟩⟩⟩⟩⟩

def RX0 : String := "CallForBrown$Boy"
def TX0 : u_T := fun k => match k with
  | 0 => ("CallForBrown$Boy", "levels", "[LCallForBrown$Parts;", true)
  | 1 => ("CallForBrown$Boy", "ways", "[[I", true)
  | _ => ("CallForBrown$Boy", "firsts", "[I", true)
def tyX0 : Nat → FieldType := fun k => match k with
  | 0 => .array (.object "CallForBrown$Parts")
  | 1 => .array (.array .int)
  | _ => .array .int
abbrev wsX00 : List Cond := u_ws RX0 TX0 3
theorem nmX0 : ∀ a, a < 3 → ∀ b, b < 3 → a ≠ b → (TX0 a).2.1 ≠ (TX0 b).2.1 := by decide +kernel
theorem tyX0_ok : ∀ k, k < 3 → parseFieldDescriptor (TX0 k).2.2.1 = some (tyX0 k) := by decide +kernel
abbrev cX0_init : ByteArray := prog_2_method_1_code
def yX0_init : MethodName := ⟨RX0, "<init>", "()V"⟩
abbrev cX0_mostFrom : ByteArray := prog_2_method_2_code
def yX0_mostFrom : MethodName := ⟨RX0, "mostFrom", "(LCallForBrown$House;LCallForBrown$Parts;II)I"⟩
abbrev cX0_stepAt : ByteArray := prog_2_method_3_code
def yX0_stepAt : MethodName := ⟨RX0, "stepAt", "(I)I"⟩
abbrev cX0_bestStart : ByteArray := prog_2_method_4_code
def yX0_bestStart : MethodName := ⟨RX0, "bestStart", "(LCallForBrown$House;LCallForBrown$Parts;I)I"⟩
abbrev cX0_seek : ByteArray := prog_2_method_5_code
def yX0_seek : MethodName := ⟨RX0, "seek", "(LCallForBrown$House;III)I"⟩
abbrev cX0_calling : ByteArray := prog_2_method_6_code
def yX0_calling : MethodName := ⟨RX0, "calling", "(LCallForBrown$House;III)I"⟩
abbrev cX0_keepWay : ByteArray := prog_2_method_7_code
def yX0_keepWay : MethodName := ⟨RX0, "keepWay", "(II)V"⟩
def RX1 : String := "CallForBrown$Chase"
def TX1 : u_T := fun k => match k with
  | 0 => ("CallForBrown$Chase", "seen", "[J", true)
  | 1 => ("CallForBrown$Chase", "queue", "[I", true)
  | 2 => ("CallForBrown$Chase", "before", "[I", true)
  | 3 => ("CallForBrown$Chase", "leaders", "[I", true)
  | 4 => ("CallForBrown$Chase", "known", "[I", true)
  | 5 => ("CallForBrown$Chase", "tail", "I", false)
  | _ => ("CallForBrown$Chase", "goal", "I", false)
def tyX1 : Nat → FieldType := fun k => match k with
  | 0 => .array .long
  | 1 => .array .int
  | 2 => .array .int
  | 3 => .array .int
  | 4 => .array .int
  | 5 => .int
  | _ => .int
abbrev wsX10 : List Cond := u_ws RX1 TX1 7
theorem nmX1 : ∀ a, a < 7 → ∀ b, b < 7 → a ≠ b → (TX1 a).2.1 ≠ (TX1 b).2.1 := by decide +kernel
theorem tyX1_ok : ∀ k, k < 7 → parseFieldDescriptor (TX1 k).2.2.1 = some (tyX1 k) := by decide +kernel
abbrev cX1_init : ByteArray := prog_3_method_1_code
def yX1_init : MethodName := ⟨RX1, "<init>", "()V"⟩
abbrev cX1_hunt : ByteArray := prog_3_method_2_code
def yX1_hunt : MethodName := ⟨RX1, "hunt", "(LCallForBrown$House;IIZ)Z"⟩
abbrev cX1_minutesToClear : ByteArray := prog_3_method_3_code
def yX1_minutesToClear : MethodName := ⟨RX1, "minutesToClear", "()I"⟩
abbrev cX1_placeOf : ByteArray := prog_3_method_4_code
def yX1_placeOf : MethodName := ⟨RX1, "placeOf", "(II)I"⟩
abbrev cX1_pairsThatCan : ByteArray := prog_3_method_5_code
def yX1_pairsThatCan : MethodName := ⟨RX1, "pairsThatCan", "(LCallForBrown$House;)I"⟩
abbrev cX1_findLeaders : ByteArray := prog_3_method_6_code
def yX1_findLeaders : MethodName := ⟨RX1, "findLeaders", "(LCallForBrown$House;)V"⟩
abbrev cX1_goOn : ByteArray := prog_3_method_7_code
def yX1_goOn : MethodName := ⟨RX1, "goOn", "(LCallForBrown$House;IZ)V"⟩
abbrev cX1_reach : ByteArray := prog_3_method_8_code
def yX1_reach : MethodName := ⟨RX1, "reach", "(IIII)V"⟩
def RX2 : String := "CallForBrown$Evening"
def TX2 : u_T := fun k => match k with
  | 0 => ("CallForBrown$Evening", "x", "J", false)
  | 1 => ("CallForBrown$Evening", "foundAt", "I", false)
  | _ => ("CallForBrown$Evening", "place", "I", false)
def tyX2 : Nat → FieldType := fun k => match k with
  | 0 => .long
  | 1 => .int
  | _ => .int
abbrev wsX20 : List Cond := u_ws RX2 TX2 3
theorem nmX2 : ∀ a, a < 3 → ∀ b, b < 3 → a ≠ b → (TX2 a).2.1 ≠ (TX2 b).2.1 := by decide +kernel
theorem tyX2_ok : ∀ k, k < 3 → parseFieldDescriptor (TX2 k).2.2.1 = some (tyX2 k) := by decide +kernel
abbrev cX2_init : ByteArray := prog_4_method_1_code
def yX2_init : MethodName := ⟨RX2, "<init>", "()V"⟩
abbrev cX2_draw : ByteArray := prog_4_method_2_code
def yX2_draw : MethodName := ⟨RX2, "draw", "(LCallForBrown$House;LCallForBrown$Row;J)V"⟩
abbrev cX2_takeSeat : ByteArray := prog_4_method_3_code
def yX2_takeSeat : MethodName := ⟨RX2, "takeSeat", "(LCallForBrown$House;)I"⟩
abbrev cX2_move : ByteArray := prog_4_method_4_code
def yX2_move : MethodName := ⟨RX2, "move", "(LCallForBrown$House;)V"⟩
abbrev cX2_next : ByteArray := prog_4_method_5_code
def yX2_next : MethodName := ⟨RX2, "next", "(I)I"⟩
def RX3 : String := "CallForBrown$House"
def TX3 : u_T := fun k => match k with
  | 0 => ("CallForBrown$House", "lines", "I", false)
  | 1 => ("CallForBrown$House", "moves", "I", false)
  | 2 => ("CallForBrown$House", "here", "I", false)
  | 3 => ("CallForBrown$House", "worth", "I", false)
  | 4 => ("CallForBrown$House", "price", "I", false)
  | 5 => ("CallForBrown$House", "rooms", "I", false)
  | 6 => ("CallForBrown$House", "men", "I", false)
  | 7 => ("CallForBrown$House", "people", "[I", true)
  | 8 => ("CallForBrown$House", "hears", "[I", true)
  | 9 => ("CallForBrown$House", "sits", "[I", true)
  | 10 => ("CallForBrown$House", "doors", "[I", true)
  | 11 => ("CallForBrown$House", "weighs", "[I", true)
  | 12 => ("CallForBrown$House", "says", "[I", true)
  | _ => ("CallForBrown$House", "slate", "[I", true)
def tyX3 : Nat → FieldType := fun k => match k with
  | 0 => .int
  | 1 => .int
  | 2 => .int
  | 3 => .int
  | 4 => .int
  | 5 => .int
  | 6 => .int
  | 7 => .array .int
  | 8 => .array .int
  | 9 => .array .int
  | 10 => .array .int
  | 11 => .array .int
  | 12 => .array .int
  | _ => .array .int
abbrev wsX30 : List Cond := u_ws RX3 TX3 14
theorem nmX3 : ∀ a, a < 14 → ∀ b, b < 14 → a ≠ b → (TX3 a).2.1 ≠ (TX3 b).2.1 := by decide +kernel
theorem tyX3_ok : ∀ k, k < 14 → parseFieldDescriptor (TX3 k).2.2.1 = some (tyX3 k) := by decide +kernel
abbrev cX3_init : ByteArray := prog_5_method_1_code
def yX3_init : MethodName := ⟨RX3, "<init>", "()V"⟩
abbrev cX3_limit : ByteArray := prog_5_method_2_code
def yX3_limit : MethodName := ⟨RX3, "limit", "(I)I"⟩
abbrev cX3_clear : ByteArray := prog_5_method_3_code
def yX3_clear : MethodName := ⟨RX3, "clear", "()V"⟩
abbrev cX3_copyFrom : ByteArray := prog_5_method_4_code
def yX3_copyFrom : MethodName := ⟨RX3, "copyFrom", "(LCallForBrown$House;)V"⟩
abbrev cX3_column : ByteArray := prog_5_method_5_code
def yX3_column : MethodName := ⟨RX3, "column", "(I)[I"⟩
abbrev cX3_addRoom : ByteArray := prog_5_method_6_code
def yX3_addRoom : MethodName := ⟨RX3, "addRoom", "(III)V"⟩
abbrev cX3_addMan : ByteArray := prog_5_method_7_code
def yX3_addMan : MethodName := ⟨RX3, "addMan", "(II)V"⟩
abbrev cX3_tellSlate : ByteArray := prog_5_method_8_code
def yX3_tellSlate : MethodName := ⟨RX3, "tellSlate", "(III)V"⟩
abbrev cX3_openDoor : ByteArray := prog_5_method_9_code
def yX3_openDoor : MethodName := ⟨RX3, "openDoor", "(II)V"⟩
abbrev cX3_closeDoor : ByteArray := prog_5_method_10_code
def yX3_closeDoor : MethodName := ⟨RX3, "closeDoor", "(II)V"⟩
abbrev cX3_hasRoom : ByteArray := prog_5_method_11_code
def yX3_hasRoom : MethodName := ⟨RX3, "hasRoom", "(I)Z"⟩
abbrev cX3_isDoor : ByteArray := prog_5_method_12_code
def yX3_isDoor : MethodName := ⟨RX3, "isDoor", "(II)Z"⟩
abbrev cX3_isStep : ByteArray := prog_5_method_13_code
def yX3_isStep : MethodName := ⟨RX3, "isStep", "(II)Z"⟩
abbrev cX3_countDoors : ByteArray := prog_5_method_14_code
def yX3_countDoors : MethodName := ⟨RX3, "countDoors", "()I"⟩
abbrev cX3_allRooms : ByteArray := prog_5_method_15_code
def yX3_allRooms : MethodName := ⟨RX3, "allRooms", "()I"⟩
abbrev cX3_spread : ByteArray := prog_5_method_16_code
def yX3_spread : MethodName := ⟨RX3, "spread", "(I)I"⟩
abbrev cX3_heard : ByteArray := prog_5_method_17_code
def yX3_heard : MethodName := ⟨RX3, "heard", "(II)I"⟩
abbrev cX3_allSits : ByteArray := prog_5_method_18_code
def yX3_allSits : MethodName := ⟨RX3, "allSits", "()I"⟩
abbrev cX3_whoSayYes : ByteArray := prog_5_method_19_code
def yX3_whoSayYes : MethodName := ⟨RX3, "whoSayYes", "(II)I"⟩
def RX4 : String := "CallForBrown$Men"
def TX4 : u_T := fun k => match k with
  | _ => ("CallForBrown$Men", "fewest", "[I", true)
def tyX4 : Nat → FieldType := fun k => match k with
  | _ => .array .int
abbrev wsX40 : List Cond := u_ws RX4 TX4 1
theorem nmX4 : ∀ a, a < 1 → ∀ b, b < 1 → a ≠ b → (TX4 a).2.1 ≠ (TX4 b).2.1 := by decide +kernel
theorem tyX4_ok : ∀ k, k < 1 → parseFieldDescriptor (TX4 k).2.2.1 = some (tyX4 k) := by decide +kernel
abbrev cX4_init : ByteArray := prog_6_method_1_code
def yX4_init : MethodName := ⟨RX4, "<init>", "()V"⟩
abbrev cX4_fewestFor : ByteArray := prog_6_method_2_code
def yX4_fewestFor : MethodName := ⟨RX4, "fewestFor", "(LCallForBrown$House;I)I"⟩
abbrev cX4_firstFor : ByteArray := prog_6_method_3_code
def yX4_firstFor : MethodName := ⟨RX4, "firstFor", "(LCallForBrown$House;I)I"⟩
abbrev cX4_fewestOf : ByteArray := prog_6_method_4_code
def yX4_fewestOf : MethodName := ⟨RX4, "fewestOf", "(LCallForBrown$House;I)I"⟩
abbrev cX4_askedFirst : ByteArray := prog_6_method_5_code
def yX4_askedFirst : MethodName := ⟨RX4, "askedFirst", "(LCallForBrown$House;II)I"⟩
abbrev cX4_listFor : ByteArray := prog_6_method_6_code
def yX4_listFor : MethodName := ⟨RX4, "listFor", "(LCallForBrown$House;I)I"⟩
abbrev cX4_areApart : ByteArray := prog_6_method_7_code
def yX4_areApart : MethodName := ⟨RX4, "areApart", "(LCallForBrown$House;II)Z"⟩
abbrev cX4_share : ByteArray := prog_6_method_8_code
def yX4_share : MethodName := ⟨RX4, "share", "(LCallForBrown$House;II)J"⟩
abbrev cX4_allRead : ByteArray := prog_6_method_9_code
def yX4_allRead : MethodName := ⟨RX4, "allRead", "(LCallForBrown$House;I)J"⟩
abbrev cX4_hasAs : ByteArray := prog_6_method_10_code
def yX4_hasAs : MethodName := ⟨RX4, "hasAs", "(LCallForBrown$House;II)I"⟩
abbrev cX4_hasInAll : ByteArray := prog_6_method_11_code
def yX4_hasInAll : MethodName := ⟨RX4, "hasInAll", "(LCallForBrown$House;I)I"⟩
abbrev cX4_slateSum : ByteArray := prog_6_method_12_code
def yX4_slateSum : MethodName := ⟨RX4, "slateSum", "(LCallForBrown$House;I)I"⟩
abbrev cX4_lowest : ByteArray := prog_6_method_13_code
def yX4_lowest : MethodName := ⟨RX4, "lowest", "(JJI)J"⟩
abbrev cX4_greatestDivisor : ByteArray := prog_6_method_14_code
def yX4_greatestDivisor : MethodName := ⟨RX4, "greatestDivisor", "(JJ)J"⟩
def RX5 : String := "CallForBrown$Parts"
def TX5 : u_T := fun k => match k with
  | 0 => ("CallForBrown$Parts", "in", "[I", true)
  | 1 => ("CallForBrown$Parts", "comes", "[I", true)
  | 2 => ("CallForBrown$Parts", "out", "I", false)
  | _ => ("CallForBrown$Parts", "found", "I", false)
def tyX5 : Nat → FieldType := fun k => match k with
  | 0 => .array .int
  | 1 => .array .int
  | 2 => .int
  | _ => .int
abbrev wsX50 : List Cond := u_ws RX5 TX5 4
theorem nmX5 : ∀ a, a < 4 → ∀ b, b < 4 → a ≠ b → (TX5 a).2.1 ≠ (TX5 b).2.1 := by decide +kernel
theorem tyX5_ok : ∀ k, k < 4 → parseFieldDescriptor (TX5 k).2.2.1 = some (tyX5 k) := by decide +kernel
abbrev cX5_init : ByteArray := prog_7_method_1_code
def yX5_init : MethodName := ⟨RX5, "<init>", "()V"⟩
abbrev cX5_begin : ByteArray := prog_7_method_2_code
def yX5_begin : MethodName := ⟨RX5, "begin", "(LCallForBrown$House;)V"⟩
abbrev cX5_copyFrom : ByteArray := prog_7_method_3_code
def yX5_copyFrom : MethodName := ⟨RX5, "copyFrom", "(LCallForBrown$Parts;)V"⟩
abbrev cX5_of : ByteArray := prog_7_method_4_code
def yX5_of : MethodName := ⟨RX5, "of", "(I)I"⟩
abbrev cX5_chanceOf : ByteArray := prog_7_method_5_code
def yX5_chanceOf : MethodName := ⟨RX5, "chanceOf", "(I)I"⟩
abbrev cX5_chanceHere : ByteArray := prog_7_method_6_code
def yX5_chanceHere : MethodName := ⟨RX5, "chanceHere", "()I"⟩
abbrev cX5_audible : ByteArray := prog_7_method_7_code
def yX5_audible : MethodName := ⟨RX5, "audible", "(LCallForBrown$House;II)I"⟩
abbrev cX5_live : ByteArray := prog_7_method_8_code
def yX5_live : MethodName := ⟨RX5, "live", "(LCallForBrown$House;II)I"⟩
abbrev cX5_pass : ByteArray := prog_7_method_9_code
def yX5_pass : MethodName := ⟨RX5, "pass", "(LCallForBrown$House;I)Z"⟩
abbrev cX5_leave : ByteArray := prog_7_method_10_code
def yX5_leave : MethodName := ⟨RX5, "leave", "(LCallForBrown$House;I)V"⟩
def RX6 : String := "CallForBrown$Reader"
def TX6 : u_T := fun k => match k with
  | 0 => ("CallForBrown$Reader", "tape", "LCallForBrown$Tape;", true)
  | 1 => ("CallForBrown$Reader", "next", "I", false)
  | 2 => ("CallForBrown$Reader", "kind", "I", false)
  | 3 => ("CallForBrown$Reader", "place", "I", false)
  | 4 => ("CallForBrown$Reader", "value", "I", false)
  | 5 => ("CallForBrown$Reader", "fault", "I", false)
  | _ => ("CallForBrown$Reader", "faultPlace", "I", false)
def tyX6 : Nat → FieldType := fun k => match k with
  | 0 => .object "CallForBrown$Tape"
  | 1 => .int
  | 2 => .int
  | 3 => .int
  | 4 => .int
  | 5 => .int
  | _ => .int
abbrev wsX60 : List Cond := u_ws RX6 TX6 7
theorem nmX6 : ∀ a, a < 7 → ∀ b, b < 7 → a ≠ b → (TX6 a).2.1 ≠ (TX6 b).2.1 := by decide +kernel
theorem tyX6_ok : ∀ k, k < 7 → parseFieldDescriptor (TX6 k).2.2.1 = some (tyX6 k) := by decide +kernel
abbrev cX6_init : ByteArray := prog_8_method_1_code
def yX6_init : MethodName := ⟨RX6, "<init>", "()V"⟩
abbrev cX6_readHouse : ByteArray := prog_8_method_2_code
def yX6_readHouse : MethodName := ⟨RX6, "readHouse", "(LCallForBrown$House;)Z"⟩
abbrev cX6_readLine : ByteArray := prog_8_method_3_code
def yX6_readLine : MethodName := ⟨RX6, "readLine", "(LCallForBrown$House;)Z"⟩
abbrev cX6_readFirst : ByteArray := prog_8_method_4_code
def yX6_readFirst : MethodName := ⟨RX6, "readFirst", "(LCallForBrown$House;)Z"⟩
abbrev cX6_readRoom : ByteArray := prog_8_method_5_code
def yX6_readRoom : MethodName := ⟨RX6, "readRoom", "(LCallForBrown$House;)Z"⟩
abbrev cX6_readDoor : ByteArray := prog_8_method_6_code
def yX6_readDoor : MethodName := ⟨RX6, "readDoor", "(LCallForBrown$House;)Z"⟩
abbrev cX6_readMan : ByteArray := prog_8_method_7_code
def yX6_readMan : MethodName := ⟨RX6, "readMan", "(LCallForBrown$House;)Z"⟩
abbrev cX6_takeQuestions : ByteArray := prog_8_method_8_code
def yX6_takeQuestions : MethodName := ⟨RX6, "takeQuestions", "()I"⟩
abbrev cX6_readSlate : ByteArray := prog_8_method_9_code
def yX6_readSlate : MethodName := ⟨RX6, "readSlate", "(LCallForBrown$House;)Z"⟩
abbrev cX6_takeNamed : ByteArray := prog_8_method_10_code
def yX6_takeNamed : MethodName := ⟨RX6, "takeNamed", "(Ljava/lang/String;II)I"⟩
abbrev cX6_takeNumber : ByteArray := prog_8_method_11_code
def yX6_takeNumber : MethodName := ⟨RX6, "takeNumber", "(III)I"⟩
abbrev cX6_takeSign : ByteArray := prog_8_method_12_code
def yX6_takeSign : MethodName := ⟨RX6, "takeSign", "()Z"⟩
abbrev cX6_fail : ByteArray := prog_8_method_13_code
def yX6_fail : MethodName := ⟨RX6, "fail", "(I)Z"⟩
abbrev cX6_isWord : ByteArray := prog_8_method_14_code
def yX6_isWord : MethodName := ⟨RX6, "isWord", "(Ljava/lang/String;)Z"⟩
abbrev cX6_advance : ByteArray := prog_8_method_15_code
def yX6_advance : MethodName := ⟨RX6, "advance", "()V"⟩
abbrev cX6_isBlank : ByteArray := prog_8_method_16_code
def yX6_isBlank : MethodName := ⟨RX6, "isBlank", "(I)Z"⟩
abbrev cX6_kindOf : ByteArray := prog_8_method_17_code
def yX6_kindOf : MethodName := ⟨RX6, "kindOf", "(I)I"⟩
def RX7 : String := "CallForBrown$Row"
def TX7 : u_T := fun k => match k with
  | 0 => ("CallForBrown$Row", "numbers", "[J", true)
  | 1 => ("CallForBrown$Row", "made", "Z", false)
  | 2 => ("CallForBrown$Row", "width", "I", false)
  | _ => ("CallForBrown$Row", "size", "I", false)
def tyX7 : Nat → FieldType := fun k => match k with
  | 0 => .array .long
  | 1 => .boolean
  | 2 => .int
  | _ => .int
abbrev wsX70 : List Cond := u_ws RX7 TX7 4
theorem nmX7 : ∀ a, a < 4 → ∀ b, b < 4 → a ≠ b → (TX7 a).2.1 ≠ (TX7 b).2.1 := by decide +kernel
theorem tyX7_ok : ∀ k, k < 4 → parseFieldDescriptor (TX7 k).2.2.1 = some (tyX7 k) := by decide +kernel
abbrev cX7_init : ByteArray := prog_9_method_1_code
def yX7_init : MethodName := ⟨RX7, "<init>", "()V"⟩
abbrev cX7_make : ByteArray := prog_9_method_2_code
def yX7_make : MethodName := ⟨RX7, "make", "(II)V"⟩
abbrev cX7_cut : ByteArray := prog_9_method_3_code
def yX7_cut : MethodName := ⟨RX7, "cut", "(J)J"⟩
abbrev cX7_holds : ByteArray := prog_9_method_4_code
def yX7_holds : MethodName := ⟨RX7, "holds", "(II)Z"⟩
abbrev cX7_isWithin : ByteArray := prog_9_method_5_code
def yX7_isWithin : MethodName := ⟨RX7, "isWithin", "(II)Z"⟩
abbrev cX7_roomAt : ByteArray := prog_9_method_6_code
def yX7_roomAt : MethodName := ⟨RX7, "roomAt", "(I)I"⟩
abbrev cX7_callCount : ByteArray := prog_9_method_7_code
def yX7_callCount : MethodName := ⟨RX7, "callCount", "()I"⟩
abbrev cX7_countOf : ByteArray := prog_9_method_8_code
def yX7_countOf : MethodName := ⟨RX7, "countOf", "(II)I"⟩
abbrev cX7_comesAgain : ByteArray := prog_9_method_9_code
def yX7_comesAgain : MethodName := ⟨RX7, "comesAgain", "(I)Z"⟩
def RX8 : String := "CallForBrown$State"
def TX8 : u_T := fun k => match k with
  | 0 => ("CallForBrown$State", "house", "LCallForBrown$House;", true)
  | 1 => ("CallForBrown$State", "calls", "[I", true)
  | 2 => ("CallForBrown$State", "minutes", "I", false)
  | _ => ("CallForBrown$State", "kept", "Z", false)
def tyX8 : Nat → FieldType := fun k => match k with
  | 0 => .object "CallForBrown$House"
  | 1 => .array .int
  | 2 => .int
  | _ => .boolean
abbrev wsX80 : List Cond := u_ws RX8 TX8 4
theorem nmX8 : ∀ a, a < 4 → ∀ b, b < 4 → a ≠ b → (TX8 a).2.1 ≠ (TX8 b).2.1 := by decide +kernel
theorem tyX8_ok : ∀ k, k < 4 → parseFieldDescriptor (TX8 k).2.2.1 = some (tyX8 k) := by decide +kernel
abbrev cX8_init : ByteArray := prog_10_method_1_code
def yX8_init : MethodName := ⟨RX8, "<init>", "()V"⟩
abbrev cX8_copyFrom : ByteArray := prog_10_method_2_code
def yX8_copyFrom : MethodName := ⟨RX8, "copyFrom", "(LCallForBrown$State;)V"⟩
def RX9 : String := "CallForBrown$Tape"
def TX9 : u_T := fun k => match k with
  | 0 => ("CallForBrown$Tape", "bytes", "[B", true)
  | _ => ("CallForBrown$Tape", "size", "I", false)
def tyX9 : Nat → FieldType := fun k => match k with
  | 0 => .array .byte
  | _ => .int
abbrev wsX90 : List Cond := u_ws RX9 TX9 2
theorem nmX9 : ∀ a, a < 2 → ∀ b, b < 2 → a ≠ b → (TX9 a).2.1 ≠ (TX9 b).2.1 := by decide +kernel
theorem tyX9_ok : ∀ k, k < 2 → parseFieldDescriptor (TX9 k).2.2.1 = some (tyX9 k) := by decide +kernel
abbrev cX9_init : ByteArray := prog_11_method_1_code
def yX9_init : MethodName := ⟨RX9, "<init>", "()V"⟩
abbrev cX9_push : ByteArray := prog_11_method_2_code
def yX9_push : MethodName := ⟨RX9, "push", "(I)V"⟩
abbrev cX9_at : ByteArray := prog_11_method_3_code
def yX9_at : MethodName := ⟨RX9, "at", "(I)I"⟩
def RX10 : String := "CallForBrown"
def TX10 : u_T := fun k => match k with
  | 0 => ("CallForBrown", "reader", "LCallForBrown$Reader;", true)
  | 1 => ("CallForBrown", "tape", "LCallForBrown$Tape;", true)
  | 2 => ("CallForBrown", "draft", "LCallForBrown$House;", true)
  | 3 => ("CallForBrown", "state", "LCallForBrown$State;", true)
  | 4 => ("CallForBrown", "images", "[LCallForBrown$State;", true)
  | 5 => ("CallForBrown", "rows", "[LCallForBrown$Row;", true)
  | 6 => ("CallForBrown", "now", "LCallForBrown$Parts;", true)
  | 7 => ("CallForBrown", "work", "LCallForBrown$Parts;", true)
  | 8 => ("CallForBrown", "caller", "LCallForBrown$Boy;", true)
  | 9 => ("CallForBrown", "chase", "LCallForBrown$Chase;", true)
  | 10 => ("CallForBrown", "men", "LCallForBrown$Men;", true)
  | _ => ("CallForBrown", "evening", "LCallForBrown$Evening;", true)
def tyX10 : Nat → FieldType := fun k => match k with
  | 0 => .object "CallForBrown$Reader"
  | 1 => .object "CallForBrown$Tape"
  | 2 => .object "CallForBrown$House"
  | 3 => .object "CallForBrown$State"
  | 4 => .array (.object "CallForBrown$State")
  | 5 => .array (.object "CallForBrown$Row")
  | 6 => .object "CallForBrown$Parts"
  | 7 => .object "CallForBrown$Parts"
  | 8 => .object "CallForBrown$Boy"
  | 9 => .object "CallForBrown$Chase"
  | 10 => .object "CallForBrown$Men"
  | _ => .object "CallForBrown$Evening"
abbrev wsX100 : List Cond := u_ws RX10 TX10 12
theorem nmX10 : ∀ a, a < 12 → ∀ b, b < 12 → a ≠ b → (TX10 a).2.1 ≠ (TX10 b).2.1 := by decide +kernel
theorem tyX10_ok : ∀ k, k < 12 → parseFieldDescriptor (TX10 k).2.2.1 = some (tyX10 k) := by decide +kernel
abbrev cX10_init : ByteArray := prog_1_method_1_code
def yX10_init : MethodName := ⟨RX10, "<init>", "()V"⟩
abbrev cX10_feed : ByteArray := prog_1_method_2_code
def yX10_feed : MethodName := ⟨RX10, "feed", "(IIIII)I"⟩
abbrev cX10_end : ByteArray := prog_1_method_3_code
def yX10_end : MethodName := ⟨RX10, "end", "(I)I"⟩
abbrev cX10_house : ByteArray := prog_1_method_4_code
def yX10_house : MethodName := ⟨RX10, "house", "()I"⟩
abbrev cX10_fault : ByteArray := prog_1_method_5_code
def yX10_fault : MethodName := ⟨RX10, "fault", "(I)I"⟩
abbrev cX10_room : ByteArray := prog_1_method_6_code
def yX10_room : MethodName := ⟨RX10, "room", "(II)I"⟩
abbrev cX10_man : ByteArray := prog_1_method_7_code
def yX10_man : MethodName := ⟨RX10, "man", "(II)I"⟩
abbrev cX10_slate : ByteArray := prog_1_method_8_code
def yX10_slate : MethodName := ⟨RX10, "slate", "(II)I"⟩
abbrev cX10_hears : ByteArray := prog_1_method_9_code
def yX10_hears : MethodName := ⟨RX10, "hears", "(II)I"⟩
abbrev cX10_parts : ByteArray := prog_1_method_10_code
def yX10_parts : MethodName := ⟨RX10, "parts", "(I)I"⟩
abbrev cX10_found : ByteArray := prog_1_method_11_code
def yX10_found : MethodName := ⟨RX10, "found", "()I"⟩
abbrev cX10_likely : ByteArray := prog_1_method_12_code
def yX10_likely : MethodName := ⟨RX10, "likely", "()I"⟩
abbrev cX10_here : ByteArray := prog_1_method_13_code
def yX10_here : MethodName := ⟨RX10, "here", "()I"⟩
abbrev cX10_chance : ByteArray := prog_1_method_14_code
def yX10_chance : MethodName := ⟨RX10, "chance", "(I)I"⟩
abbrev cX10_call : ByteArray := prog_1_method_15_code
def yX10_call : MethodName := ⟨RX10, "call", "(I)I"⟩
abbrev cX10_undo : ByteArray := prog_1_method_16_code
def yX10_undo : MethodName := ⟨RX10, "undo", "()I"⟩
abbrev cX10_anew : ByteArray := prog_1_method_17_code
def yX10_anew : MethodName := ⟨RX10, "anew", "()I"⟩
abbrev cX10_later : ByteArray := prog_1_method_18_code
def yX10_later : MethodName := ⟨RX10, "later", "(II)I"⟩
abbrev cX10_round : ByteArray := prog_1_method_19_code
def yX10_round : MethodName := ⟨RX10, "round", "(I)I"⟩
abbrev cX10_behind : ByteArray := prog_1_method_20_code
def yX10_behind : MethodName := ⟨RX10, "behind", "(II)I"⟩
abbrev cX10_disturbs : ByteArray := prog_1_method_21_code
def yX10_disturbs : MethodName := ⟨RX10, "disturbs", "(I)I"⟩
abbrev cX10_gain : ByteArray := prog_1_method_22_code
def yX10_gain : MethodName := ⟨RX10, "gain", "(I)I"⟩
abbrev cX10_stop : ByteArray := prog_1_method_23_code
def yX10_stop : MethodName := ⟨RX10, "stop", "(I)I"⟩
abbrev cX10_doubt : ByteArray := prog_1_method_24_code
def yX10_doubt : MethodName := ⟨RX10, "doubt", "(II)I"⟩
abbrev cX10_walks : ByteArray := prog_1_method_25_code
def yX10_walks : MethodName := ⟨RX10, "walks", "(II)I"⟩
abbrev cX10_penny : ByteArray := prog_1_method_26_code
def yX10_penny : MethodName := ⟨RX10, "penny", "(I)I"⟩
abbrev cX10_best : ByteArray := prog_1_method_27_code
def yX10_best : MethodName := ⟨RX10, "best", "(II)I"⟩
abbrev cX10_goes : ByteArray := prog_1_method_28_code
def yX10_goes : MethodName := ⟨RX10, "goes", "(III)I"⟩
abbrev cX10_begins : ByteArray := prog_1_method_29_code
def yX10_begins : MethodName := ⟨RX10, "begins", "(I)I"⟩
abbrev cX10_soon : ByteArray := prog_1_method_30_code
def yX10_soon : MethodName := ⟨RX10, "soon", "(II)I"⟩
abbrev cX10_far : ByteArray := prog_1_method_31_code
def yX10_far : MethodName := ⟨RX10, "far", "(II)I"⟩
abbrev cX10_hangs : ByteArray := prog_1_method_32_code
def yX10_hangs : MethodName := ⟨RX10, "hangs", "(I)I"⟩
abbrev cX10_rest : ByteArray := prog_1_method_33_code
def yX10_rest : MethodName := ⟨RX10, "rest", "()I"⟩
abbrev cX10_trumpet : ByteArray := prog_1_method_34_code
def yX10_trumpet : MethodName := ⟨RX10, "trumpet", "()I"⟩
abbrev cX10_quiet : ByteArray := prog_1_method_35_code
def yX10_quiet : MethodName := ⟨RX10, "quiet", "(I)I"⟩
abbrev cX10_quietly : ByteArray := prog_1_method_36_code
def yX10_quietly : MethodName := ⟨RX10, "quietly", "(I)I"⟩
abbrev cX10_card : ByteArray := prog_1_method_37_code
def yX10_card : MethodName := ⟨RX10, "card", "(II)I"⟩
abbrev cX10_desk : ByteArray := prog_1_method_38_code
def yX10_desk : MethodName := ⟨RX10, "desk", "(I)I"⟩
abbrev cX10_one : ByteArray := prog_1_method_39_code
def yX10_one : MethodName := ⟨RX10, "one", "(I)I"⟩
abbrev cX10_two : ByteArray := prog_1_method_40_code
def yX10_two : MethodName := ⟨RX10, "two", "(II)I"⟩
abbrev cX10_way : ByteArray := prog_1_method_41_code
def yX10_way : MethodName := ⟨RX10, "way", "(IIII)I"⟩
abbrev cX10_slips : ByteArray := prog_1_method_42_code
def yX10_slips : MethodName := ⟨RX10, "slips", "(II)I"⟩
abbrev cX10_boys : ByteArray := prog_1_method_43_code
def yX10_boys : MethodName := ⟨RX10, "boys", "()I"⟩
abbrev cX10_pairs : ByteArray := prog_1_method_44_code
def yX10_pairs : MethodName := ⟨RX10, "pairs", "()I"⟩
abbrev cX10_which : ByteArray := prog_1_method_45_code
def yX10_which : MethodName := ⟨RX10, "which", "(I)I"⟩
abbrev cX10_question : ByteArray := prog_1_method_46_code
def yX10_question : MethodName := ⟨RX10, "question", "(I)I"⟩
abbrev cX10_yes : ByteArray := prog_1_method_47_code
def yX10_yes : MethodName := ⟨RX10, "yes", "(II)I"⟩
abbrev cX10_list : ByteArray := prog_1_method_48_code
def yX10_list : MethodName := ⟨RX10, "list", "(I)I"⟩
abbrev cX10_meant : ByteArray := prog_1_method_49_code
def yX10_meant : MethodName := ⟨RX10, "meant", "(III)I"⟩
abbrev cX10_read : ByteArray := prog_1_method_50_code
def yX10_read : MethodName := ⟨RX10, "read", "(III)J"⟩
abbrev cX10_guess : ByteArray := prog_1_method_51_code
def yX10_guess : MethodName := ⟨RX10, "guess", "(I)I"⟩
abbrev cX10_right : ByteArray := prog_1_method_52_code
def yX10_right : MethodName := ⟨RX10, "right", "(I)J"⟩
abbrev cX10_habit : ByteArray := prog_1_method_53_code
def yX10_habit : MethodName := ⟨RX10, "habit", "(I)I"⟩
abbrev cX10_follows : ByteArray := prog_1_method_54_code
def yX10_follows : MethodName := ⟨RX10, "follows", "(II)I"⟩
abbrev cX10_period : ByteArray := prog_1_method_55_code
def yX10_period : MethodName := ⟨RX10, "period", "(I)I"⟩
abbrev cX10_drawn : ByteArray := prog_1_method_56_code
def yX10_drawn : MethodName := ⟨RX10, "drawn", "(III)I"⟩
abbrev cX10_lot : ByteArray := prog_1_method_57_code
def yX10_lot : MethodName := ⟨RX10, "lot", "(III)I"⟩
abbrev cX10_tell : ByteArray := prog_1_method_58_code
def yX10_tell : MethodName := ⟨RX10, "tell", "(III)I"⟩
abbrev cX10_shut : ByteArray := prog_1_method_59_code
def yX10_shut : MethodName := ⟨RX10, "shut", "(III)I"⟩
abbrev cX10_count : ByteArray := prog_1_method_60_code
def yX10_count : MethodName := ⟨RX10, "count", "(I)I"⟩
abbrev cX10_image : ByteArray := prog_1_method_61_code
def yX10_image : MethodName := ⟨RX10, "image", "(I)I"⟩
abbrev cX10_back : ByteArray := prog_1_method_62_code
def yX10_back : MethodName := ⟨RX10, "back", "(I)I"⟩
abbrev cX10_row : ByteArray := prog_1_method_63_code
def yX10_row : MethodName := ⟨RX10, "row", "(III)I"⟩
abbrev cX10_write : ByteArray := prog_1_method_64_code
def yX10_write : MethodName := ⟨RX10, "write", "(IIJ)I"⟩
abbrev cX10_paste : ByteArray := prog_1_method_65_code
def yX10_paste : MethodName := ⟨RX10, "paste", "(IIIII)I"⟩
abbrev cX10_hasHouse : ByteArray := prog_1_method_66_code
def yX10_hasHouse : MethodName := ⟨RX10, "hasHouse", "()Z"⟩
abbrev cX10_isRoom : ByteArray := prog_1_method_67_code
def yX10_isRoom : MethodName := ⟨RX10, "isRoom", "(I)Z"⟩
abbrev cX10_isRoomOrOut : ByteArray := prog_1_method_68_code
def yX10_isRoomOrOut : MethodName := ⟨RX10, "isRoomOrOut", "(I)Z"⟩
abbrev cX10_isMan : ByteArray := prog_1_method_69_code
def yX10_isMan : MethodName := ⟨RX10, "isMan", "(I)Z"⟩
abbrev cX10_isSet : ByteArray := prog_1_method_70_code
def yX10_isSet : MethodName := ⟨RX10, "isSet", "(I)Z"⟩
abbrev cX10_isPartOfMillion : ByteArray := prog_1_method_71_code
def yX10_isPartOfMillion : MethodName := ⟨RX10, "isPartOfMillion", "(I)Z"⟩
abbrev cX10_isBestLength : ByteArray := prog_1_method_72_code
def yX10_isBestLength : MethodName := ⟨RX10, "isBestLength", "(I)Z"⟩
abbrev cX10_isSeed : ByteArray := prog_1_method_73_code
def yX10_isSeed : MethodName := ⟨RX10, "isSeed", "(I)Z"⟩
abbrev cX10_isSlot : ByteArray := prog_1_method_74_code
def yX10_isSlot : MethodName := ⟨RX10, "isSlot", "(I)Z"⟩
abbrev cX10_askRound : ByteArray := prog_1_method_75_code
def yX10_askRound : MethodName := ⟨RX10, "askRound", "(IZ)I"⟩
abbrev cX10_askHabits : ByteArray := prog_1_method_76_code
def yX10_askHabits : MethodName := ⟨RX10, "askHabits", "(IZ)I"⟩
abbrev cX10_askRow : ByteArray := prog_1_method_77_code
def yX10_askRow : MethodName := ⟨RX10, "askRow", "(IZI)I"⟩
abbrev cX10_replay : ByteArray := prog_1_method_78_code
def yX10_replay : MethodName := ⟨RX10, "replay", "()V"⟩
abbrev cX10_foundIn : ByteArray := prog_1_method_79_code
def yX10_foundIn : MethodName := ⟨RX10, "foundIn", "(LCallForBrown$Row;I)I"⟩
abbrev cX10_worthOf : ByteArray := prog_1_method_80_code
def yX10_worthOf : MethodName := ⟨RX10, "worthOf", "(I)I"⟩
abbrev cX10_gainOf : ByteArray := prog_1_method_81_code
def yX10_gainOf : MethodName := ⟨RX10, "gainOf", "(II)I"⟩
abbrev cX10_canWalk : ByteArray := prog_1_method_82_code
def yX10_canWalk : MethodName := ⟨RX10, "canWalk", "(LCallForBrown$Row;I)Z"⟩
abbrev cX10_foundAtOnce : ByteArray := prog_1_method_83_code
def yX10_foundAtOnce : MethodName := ⟨RX10, "foundAtOnce", "(I)I"⟩
abbrev cX10_peopleOf : ByteArray := prog_1_method_84_code
def yX10_peopleOf : MethodName := ⟨RX10, "peopleOf", "(I)I"⟩
abbrev cX10_quietestSet : ByteArray := prog_1_method_85_code
def yX10_quietestSet : MethodName := ⟨RX10, "quietestSet", "(I)I"⟩
abbrev cX10_comesInto : ByteArray := prog_1_method_86_code
def yX10_comesInto : MethodName := ⟨RX10, "comesInto", "(II)I"⟩
abbrev cX10_mostFrequent : ByteArray := prog_1_method_87_code
def yX10_mostFrequent : MethodName := ⟨RX10, "mostFrequent", "(LCallForBrown$Row;I)I"⟩
abbrev cX10_countRows : ByteArray := prog_1_method_88_code
def yX10_countRows : MethodName := ⟨RX10, "countRows", "()I"⟩
def RX11 : String := "CallForBrownModel"
def TX11 : u_T := fun k => match k with
  | 0 => ("CallForBrownModel", "thrown", "I", false)
  | 1 => ("CallForBrownModel", "world", "[I", true)
  | 2 => ("CallForBrownModel", "images", "[I", true)
  | 3 => ("CallForBrownModel", "hasImage", "[Z", true)
  | 4 => ("CallForBrownModel", "tape", "[B", true)
  | 5 => ("CallForBrownModel", "taped", "I", false)
  | 6 => ("CallForBrownModel", "five", "[I", true)
  | 7 => ("CallForBrownModel", "size", "I", false)
  | 8 => ("CallForBrownModel", "at", "I", false)
  | 9 => ("CallForBrownModel", "from", "I", false)
  | 10 => ("CallForBrownModel", "token", "I", false)
  | 11 => ("CallForBrownModel", "value", "I", false)
  | 12 => ("CallForBrownModel", "faultKind", "I", false)
  | 13 => ("CallForBrownModel", "faultPlace", "I", false)
  | 14 => ("CallForBrownModel", "fresh", "[I", true)
  | 15 => ("CallForBrownModel", "part", "[I", true)
  | 16 => ("CallForBrownModel", "moved", "[I", true)
  | 17 => ("CallForBrownModel", "out", "I", false)
  | 18 => ("CallForBrownModel", "foundAll", "I", false)
  | 19 => ("CallForBrownModel", "way", "[I", true)
  | 20 => ("CallForBrownModel", "bestWay", "[I", true)
  | 21 => ("CallForBrownModel", "kept", "[I", true)
  | 22 => ("CallForBrownModel", "quietPeople", "I", false)
  | 23 => ("CallForBrownModel", "queue", "[I", true)
  | 24 => ("CallForBrownModel", "farOf", "[I", true)
  | 25 => ("CallForBrownModel", "cameFrom", "[I", true)
  | 26 => ("CallForBrownModel", "queued", "I", false)
  | 27 => ("CallForBrownModel", "asked", "[I", true)
  | 28 => ("CallForBrownModel", "drawX", "J", false)
  | 29 => ("CallForBrownModel", "foundMinute", "I", false)
  | 30 => ("CallForBrownModel", "lastRoom", "I", false)
  | 31 => ("CallForBrownModel", "many", "[I", true)
  | 32 => ("CallForBrownModel", "width", "[I", true)
  | 33 => ("CallForBrownModel", "numbers", "[J", true)
  | _ => ("CallForBrownModel", "moving", "[J", true)
def tyX11 : Nat → FieldType := fun k => match k with
  | 0 => .int
  | 1 => .array .int
  | 2 => .array .int
  | 3 => .array .boolean
  | 4 => .array .byte
  | 5 => .int
  | 6 => .array .int
  | 7 => .int
  | 8 => .int
  | 9 => .int
  | 10 => .int
  | 11 => .int
  | 12 => .int
  | 13 => .int
  | 14 => .array .int
  | 15 => .array .int
  | 16 => .array .int
  | 17 => .int
  | 18 => .int
  | 19 => .array .int
  | 20 => .array .int
  | 21 => .array .int
  | 22 => .int
  | 23 => .array .int
  | 24 => .array .int
  | 25 => .array .int
  | 26 => .int
  | 27 => .array .int
  | 28 => .long
  | 29 => .int
  | 30 => .int
  | 31 => .array .int
  | 32 => .array .int
  | 33 => .array .long
  | _ => .array .long
abbrev wsX110 : List Cond := u_ws RX11 TX11 35
theorem nmX11 : ∀ a, a < 35 → ∀ b, b < 35 → a ≠ b → (TX11 a).2.1 ≠ (TX11 b).2.1 := by decide +kernel
theorem tyX11_ok : ∀ k, k < 35 → parseFieldDescriptor (TX11 k).2.2.1 = some (tyX11 k) := by decide +kernel
abbrev cX11_init : ByteArray := prog_13_method_1_code
def yX11_init : MethodName := ⟨RX11, "<init>", "()V"⟩
abbrev cX11_in : ByteArray := prog_13_method_3_code
def yX11_in : MethodName := ⟨RX11, "in", "(JJJ)Z"⟩
abbrev cX11_bits : ByteArray := prog_13_method_4_code
def yX11_bits : MethodName := ⟨RX11, "bits", "(I)I"⟩
abbrev cX11_bit : ByteArray := prog_13_method_5_code
def yX11_bit : MethodName := ⟨RX11, "bit", "(II)I"⟩
abbrev cX11_image : ByteArray := prog_13_method_6_code
def yX11_image : MethodName := ⟨RX11, "image", "(I)I"⟩
abbrev cX11_back : ByteArray := prog_13_method_7_code
def yX11_back : MethodName := ⟨RX11, "back", "(I)I"⟩
abbrev cX11_isHouse : ByteArray := prog_13_method_8_code
def yX11_isHouse : MethodName := ⟨RX11, "isHouse", "()Z"⟩
abbrev cX11_isRoom : ByteArray := prog_13_method_9_code
def yX11_isRoom : MethodName := ⟨RX11, "isRoom", "(J)Z"⟩
abbrev cX11_isRoomOrNone : ByteArray := prog_13_method_10_code
def yX11_isRoomOrNone : MethodName := ⟨RX11, "isRoomOrNone", "(J)Z"⟩
abbrev cX11_isMan : ByteArray := prog_13_method_11_code
def yX11_isMan : MethodName := ⟨RX11, "isMan", "(I)Z"⟩
abbrev cX11_areMen : ByteArray := prog_13_method_12_code
def yX11_areMen : MethodName := ⟨RX11, "areMen", "(I)Z"⟩
abbrev cX11_of : ByteArray := prog_13_method_13_code
def yX11_of : MethodName := ⟨RX11, "of", "(II)I"⟩
abbrev cX11_ofMan : ByteArray := prog_13_method_14_code
def yX11_ofMan : MethodName := ⟨RX11, "ofMan", "(II)I"⟩
abbrev cX11_allRooms : ByteArray := prog_13_method_15_code
def yX11_allRooms : MethodName := ⟨RX11, "allRooms", "()I"⟩
abbrev cX11_feed : ByteArray := prog_13_method_16_code
def yX11_feed : MethodName := ⟨RX11, "feed", "(IIIII)I"⟩
abbrev cX11_end : ByteArray := prog_13_method_17_code
def yX11_end : MethodName := ⟨RX11, "end", "(I)I"⟩
abbrev cX11_see : ByteArray := prog_13_method_18_code
def yX11_see : MethodName := ⟨RX11, "see", "(I)I"⟩
abbrev cX11_advance : ByteArray := prog_13_method_19_code
def yX11_advance : MethodName := ⟨RX11, "advance", "()V"⟩
abbrev cX11_good : ByteArray := prog_13_method_20_code
def yX11_good : MethodName := ⟨RX11, "good", "()Z"⟩
abbrev cX11_errs : ByteArray := prog_13_method_21_code
def yX11_errs : MethodName := ⟨RX11, "errs", "(I)V"⟩
abbrev cX11_is : ByteArray := prog_13_method_22_code
def yX11_is : MethodName := ⟨RX11, "is", "(Ljava/lang/String;)Z"⟩
abbrev cX11_takes : ByteArray := prog_13_method_23_code
def yX11_takes : MethodName := ⟨RX11, "takes", "(Ljava/lang/String;)Z"⟩
abbrev cX11_needs : ByteArray := prog_13_method_24_code
def yX11_needs : MethodName := ⟨RX11, "needs", "(Ljava/lang/String;)V"⟩
abbrev cX11_number : ByteArray := prog_13_method_25_code
def yX11_number : MethodName := ⟨RX11, "number", "(II)I"⟩
abbrev cX11_told : ByteArray := prog_13_method_26_code
def yX11_told : MethodName := ⟨RX11, "told", "(Ljava/lang/String;II)I"⟩
abbrev cX11_fault : ByteArray := prog_13_method_27_code
def yX11_fault : MethodName := ⟨RX11, "fault", "(I)I"⟩
abbrev cX11_freshRoom : ByteArray := prog_13_method_28_code
def yX11_freshRoom : MethodName := ⟨RX11, "freshRoom", "()I"⟩
abbrev cX11_freshMan : ByteArray := prog_13_method_29_code
def yX11_freshMan : MethodName := ⟨RX11, "freshMan", "()I"⟩
abbrev cX11_readRoom : ByteArray := prog_13_method_30_code
def yX11_readRoom : MethodName := ⟨RX11, "readRoom", "()V"⟩
abbrev cX11_readDoor : ByteArray := prog_13_method_31_code
def yX11_readDoor : MethodName := ⟨RX11, "readDoor", "()V"⟩
abbrev cX11_readMan : ByteArray := prog_13_method_32_code
def yX11_readMan : MethodName := ⟨RX11, "readMan", "()V"⟩
abbrev cX11_readSlate : ByteArray := prog_13_method_33_code
def yX11_readSlate : MethodName := ⟨RX11, "readSlate", "()V"⟩
abbrev cX11_readNext : ByteArray := prog_13_method_34_code
def yX11_readNext : MethodName := ⟨RX11, "readNext", "()V"⟩
abbrev cX11_readLine : ByteArray := prog_13_method_35_code
def yX11_readLine : MethodName := ⟨RX11, "readLine", "()V"⟩
abbrev cX11_house : ByteArray := prog_13_method_36_code
def yX11_house : MethodName := ⟨RX11, "house", "()I"⟩
abbrev cX11_room : ByteArray := prog_13_method_37_code
def yX11_room : MethodName := ⟨RX11, "room", "(II)I"⟩
abbrev cX11_man : ByteArray := prog_13_method_38_code
def yX11_man : MethodName := ⟨RX11, "man", "(II)I"⟩
abbrev cX11_slate : ByteArray := prog_13_method_39_code
def yX11_slate : MethodName := ⟨RX11, "slate", "(II)I"⟩
abbrev cX11_hearsBy : ByteArray := prog_13_method_40_code
def yX11_hearsBy : MethodName := ⟨RX11, "hearsBy", "(II)I"⟩
abbrev cX11_hears : ByteArray := prog_13_method_41_code
def yX11_hears : MethodName := ⟨RX11, "hears", "(II)I"⟩
abbrev cX11_allSits : ByteArray := prog_13_method_42_code
def yX11_allSits : MethodName := ⟨RX11, "allSits", "()I"⟩
abbrev cX11_beAtFirst : ByteArray := prog_13_method_43_code
def yX11_beAtFirst : MethodName := ⟨RX11, "beAtFirst", "()V"⟩
abbrev cX11_wouldFind : ByteArray := prog_13_method_44_code
def yX11_wouldFind : MethodName := ⟨RX11, "wouldFind", "(II)I"⟩
abbrev cX11_callIn : ByteArray := prog_13_method_45_code
def yX11_callIn : MethodName := ⟨RX11, "callIn", "(II)I"⟩
abbrev cX11_goMinute : ByteArray := prog_13_method_46_code
def yX11_goMinute : MethodName := ⟨RX11, "goMinute", "(I)V"⟩
abbrev cX11_asItIs : ByteArray := prog_13_method_47_code
def yX11_asItIs : MethodName := ⟨RX11, "asItIs", "()V"⟩
abbrev cX11_inHouse : ByteArray := prog_13_method_48_code
def yX11_inHouse : MethodName := ⟨RX11, "inHouse", "()I"⟩
abbrev cX11_inMillion : ByteArray := prog_13_method_49_code
def yX11_inMillion : MethodName := ⟨RX11, "inMillion", "(I)I"⟩
abbrev cX11_parts : ByteArray := prog_13_method_50_code
def yX11_parts : MethodName := ⟨RX11, "parts", "(I)I"⟩
abbrev cX11_found : ByteArray := prog_13_method_51_code
def yX11_found : MethodName := ⟨RX11, "found", "()I"⟩
abbrev cX11_likely : ByteArray := prog_13_method_52_code
def yX11_likely : MethodName := ⟨RX11, "likely", "()I"⟩
abbrev cX11_here : ByteArray := prog_13_method_53_code
def yX11_here : MethodName := ⟨RX11, "here", "()I"⟩
abbrev cX11_chance : ByteArray := prog_13_method_54_code
def yX11_chance : MethodName := ⟨RX11, "chance", "(I)I"⟩
abbrev cX11_call : ByteArray := prog_13_method_55_code
def yX11_call : MethodName := ⟨RX11, "call", "(I)I"⟩
abbrev cX11_undo : ByteArray := prog_13_method_56_code
def yX11_undo : MethodName := ⟨RX11, "undo", "()I"⟩
abbrev cX11_anew : ByteArray := prog_13_method_57_code
def yX11_anew : MethodName := ⟨RX11, "anew", "()I"⟩
abbrev cX11_later : ByteArray := prog_13_method_58_code
def yX11_later : MethodName := ⟨RX11, "later", "(II)I"⟩
abbrev cX11_numberAt : ByteArray := prog_13_method_59_code
def yX11_numberAt : MethodName := ⟨RX11, "numberAt", "(II)J"⟩
abbrev cX11_roomAt : ByteArray := prog_13_method_60_code
def yX11_roomAt : MethodName := ⟨RX11, "roomAt", "(II)I"⟩
abbrev cX11_asksRound : ByteArray := prog_13_method_61_code
def yX11_asksRound : MethodName := ⟨RX11, "asksRound", "(IZ)I"⟩
abbrev cX11_goRound : ByteArray := prog_13_method_62_code
def yX11_goRound : MethodName := ⟨RX11, "goRound", "(III)I"⟩
abbrev cX11_worthOf : ByteArray := prog_13_method_63_code
def yX11_worthOf : MethodName := ⟨RX11, "worthOf", "(I)I"⟩
abbrev cX11_gainOf : ByteArray := prog_13_method_64_code
def yX11_gainOf : MethodName := ⟨RX11, "gainOf", "(III)I"⟩
abbrev cX11_round : ByteArray := prog_13_method_65_code
def yX11_round : MethodName := ⟨RX11, "round", "(I)I"⟩
abbrev cX11_behind : ByteArray := prog_13_method_66_code
def yX11_behind : MethodName := ⟨RX11, "behind", "(II)I"⟩
abbrev cX11_disturbs : ByteArray := prog_13_method_67_code
def yX11_disturbs : MethodName := ⟨RX11, "disturbs", "(I)I"⟩
abbrev cX11_gain : ByteArray := prog_13_method_68_code
def yX11_gain : MethodName := ⟨RX11, "gain", "(I)I"⟩
abbrev cX11_stop : ByteArray := prog_13_method_69_code
def yX11_stop : MethodName := ⟨RX11, "stop", "(I)I"⟩
abbrev cX11_doubt : ByteArray := prog_13_method_70_code
def yX11_doubt : MethodName := ⟨RX11, "doubt", "(II)I"⟩
abbrev cX11_goesTo : ByteArray := prog_13_method_71_code
def yX11_goesTo : MethodName := ⟨RX11, "goesTo", "(II)Z"⟩
abbrev cX11_canWalk : ByteArray := prog_13_method_72_code
def yX11_canWalk : MethodName := ⟨RX11, "canWalk", "(II)Z"⟩
abbrev cX11_walks : ByteArray := prog_13_method_73_code
def yX11_walks : MethodName := ⟨RX11, "walks", "(II)I"⟩
abbrev cX11_penny : ByteArray := prog_13_method_74_code
def yX11_penny : MethodName := ⟨RX11, "penny", "(I)I"⟩
abbrev cX11_hangs : ByteArray := prog_13_method_75_code
def yX11_hangs : MethodName := ⟨RX11, "hangs", "(I)I"⟩
abbrev cX11_nextWay : ByteArray := prog_13_method_76_code
def yX11_nextWay : MethodName := ⟨RX11, "nextWay", "(I)Z"⟩
abbrev cX11_isWay : ByteArray := prog_13_method_77_code
def yX11_isWay : MethodName := ⟨RX11, "isWay", "(II)Z"⟩
abbrev cX11_bestFrom : ByteArray := prog_13_method_78_code
def yX11_bestFrom : MethodName := ⟨RX11, "bestFrom", "(II)I"⟩
abbrev cX11_best : ByteArray := prog_13_method_79_code
def yX11_best : MethodName := ⟨RX11, "best", "(II)I"⟩
abbrev cX11_goes : ByteArray := prog_13_method_80_code
def yX11_goes : MethodName := ⟨RX11, "goes", "(III)I"⟩
abbrev cX11_begins : ByteArray := prog_13_method_81_code
def yX11_begins : MethodName := ⟨RX11, "begins", "(I)I"⟩
abbrev cX11_soon : ByteArray := prog_13_method_82_code
def yX11_soon : MethodName := ⟨RX11, "soon", "(II)I"⟩
abbrev cX11_wider : ByteArray := prog_13_method_83_code
def yX11_wider : MethodName := ⟨RX11, "wider", "(I)I"⟩
abbrev cX11_far : ByteArray := prog_13_method_84_code
def yX11_far : MethodName := ⟨RX11, "far", "(II)I"⟩
abbrev cX11_rest : ByteArray := prog_13_method_85_code
def yX11_rest : MethodName := ⟨RX11, "rest", "()I"⟩
abbrev cX11_trumpet : ByteArray := prog_13_method_86_code
def yX11_trumpet : MethodName := ⟨RX11, "trumpet", "()I"⟩
abbrev cX11_quietBy : ByteArray := prog_13_method_87_code
def yX11_quietBy : MethodName := ⟨RX11, "quietBy", "(I)I"⟩
abbrev cX11_quiet : ByteArray := prog_13_method_88_code
def yX11_quiet : MethodName := ⟨RX11, "quiet", "(I)I"⟩
abbrev cX11_quietly : ByteArray := prog_13_method_89_code
def yX11_quietly : MethodName := ⟨RX11, "quietly", "(I)I"⟩
abbrev cX11_cardIn : ByteArray := prog_13_method_90_code
def yX11_cardIn : MethodName := ⟨RX11, "cardIn", "(II)I"⟩
abbrev cX11_card : ByteArray := prog_13_method_91_code
def yX11_card : MethodName := ⟨RX11, "card", "(II)I"⟩
abbrev cX11_desk : ByteArray := prog_13_method_92_code
def yX11_desk : MethodName := ⟨RX11, "desk", "(I)I"⟩
abbrev cX11_state : ByteArray := prog_13_method_93_code
def yX11_state : MethodName := ⟨RX11, "state", "(III)I"⟩
abbrev cX11_meet : ByteArray := prog_13_method_94_code
def yX11_meet : MethodName := ⟨RX11, "meet", "(III)V"⟩
abbrev cX11_chase : ByteArray := prog_13_method_95_code
def yX11_chase : MethodName := ⟨RX11, "chase", "(IIZ)I"⟩
abbrev cX11_farTo : ByteArray := prog_13_method_96_code
def yX11_farTo : MethodName := ⟨RX11, "farTo", "(I)I"⟩
abbrev cX11_one : ByteArray := prog_13_method_97_code
def yX11_one : MethodName := ⟨RX11, "one", "(I)I"⟩
abbrev cX11_two : ByteArray := prog_13_method_98_code
def yX11_two : MethodName := ⟨RX11, "two", "(II)I"⟩
abbrev cX11_way : ByteArray := prog_13_method_99_code
def yX11_way : MethodName := ⟨RX11, "way", "(IIII)I"⟩
abbrev cX11_slips : ByteArray := prog_13_method_100_code
def yX11_slips : MethodName := ⟨RX11, "slips", "(II)I"⟩
abbrev cX11_boys : ByteArray := prog_13_method_101_code
def yX11_boys : MethodName := ⟨RX11, "boys", "()I"⟩
abbrev cX11_pairs : ByteArray := prog_13_method_102_code
def yX11_pairs : MethodName := ⟨RX11, "pairs", "()I"⟩
abbrev cX11_saying : ByteArray := prog_13_method_103_code
def yX11_saying : MethodName := ⟨RX11, "saying", "(II)I"⟩
abbrev cX11_askedBy : ByteArray := prog_13_method_104_code
def yX11_askedBy : MethodName := ⟨RX11, "askedBy", "(II)I"⟩
abbrev cX11_fillAsked : ByteArray := prog_13_method_105_code
def yX11_fillAsked : MethodName := ⟨RX11, "fillAsked", "()V"⟩
abbrev cX11_which : ByteArray := prog_13_method_106_code
def yX11_which : MethodName := ⟨RX11, "which", "(I)I"⟩
abbrev cX11_question : ByteArray := prog_13_method_107_code
def yX11_question : MethodName := ⟨RX11, "question", "(I)I"⟩
abbrev cX11_yes : ByteArray := prog_13_method_108_code
def yX11_yes : MethodName := ⟨RX11, "yes", "(II)I"⟩
abbrev cX11_tellsApart : ByteArray := prog_13_method_109_code
def yX11_tellsApart : MethodName := ⟨RX11, "tellsApart", "(II)Z"⟩
abbrev cX11_list : ByteArray := prog_13_method_110_code
def yX11_list : MethodName := ⟨RX11, "list", "(I)I"⟩
abbrev cX11_divisor : ByteArray := prog_13_method_111_code
def yX11_divisor : MethodName := ⟨RX11, "divisor", "(JJ)J"⟩
abbrev cX11_part : ByteArray := prog_13_method_112_code
def yX11_part : MethodName := ⟨RX11, "part", "(JJI)J"⟩
abbrev cX11_meant : ByteArray := prog_13_method_113_code
def yX11_meant : MethodName := ⟨RX11, "meant", "(III)I"⟩
abbrev cX11_slateAll : ByteArray := prog_13_method_114_code
def yX11_slateAll : MethodName := ⟨RX11, "slateAll", "(I)J"⟩
abbrev cX11_slateOf : ByteArray := prog_13_method_115_code
def yX11_slateOf : MethodName := ⟨RX11, "slateOf", "(II)J"⟩
abbrev cX11_likelyRead : ByteArray := prog_13_method_116_code
def yX11_likelyRead : MethodName := ⟨RX11, "likelyRead", "(II)J"⟩
abbrev cX11_allRead : ByteArray := prog_13_method_117_code
def yX11_allRead : MethodName := ⟨RX11, "allRead", "(I)J"⟩
abbrev cX11_read : ByteArray := prog_13_method_118_code
def yX11_read : MethodName := ⟨RX11, "read", "(III)J"⟩
abbrev cX11_guess : ByteArray := prog_13_method_119_code
def yX11_guess : MethodName := ⟨RX11, "guess", "(I)I"⟩
abbrev cX11_right : ByteArray := prog_13_method_120_code
def yX11_right : MethodName := ⟨RX11, "right", "(I)J"⟩
abbrev cX11_asksHabit : ByteArray := prog_13_method_121_code
def yX11_asksHabit : MethodName := ⟨RX11, "asksHabit", "(IZ)I"⟩
abbrev cX11_oftenest : ByteArray := prog_13_method_122_code
def yX11_oftenest : MethodName := ⟨RX11, "oftenest", "(II)I"⟩
abbrev cX11_habit : ByteArray := prog_13_method_123_code
def yX11_habit : MethodName := ⟨RX11, "habit", "(I)I"⟩
abbrev cX11_follows : ByteArray := prog_13_method_124_code
def yX11_follows : MethodName := ⟨RX11, "follows", "(II)I"⟩
abbrev cX11_period : ByteArray := prog_13_method_125_code
def yX11_period : MethodName := ⟨RX11, "period", "(I)I"⟩
abbrev cX11_draw : ByteArray := prog_13_method_126_code
def yX11_draw : MethodName := ⟨RX11, "draw", "(I)I"⟩
abbrev cX11_firstRoom : ByteArray := prog_13_method_127_code
def yX11_firstRoom : MethodName := ⟨RX11, "firstRoom", "()I"⟩
abbrev cX11_doorFrom : ByteArray := prog_13_method_128_code
def yX11_doorFrom : MethodName := ⟨RX11, "doorFrom", "(II)I"⟩
abbrev cX11_goEvening : ByteArray := prog_13_method_129_code
def yX11_goEvening : MethodName := ⟨RX11, "goEvening", "(JI)V"⟩
abbrev cX11_isSeed : ByteArray := prog_13_method_130_code
def yX11_isSeed : MethodName := ⟨RX11, "isSeed", "(I)Z"⟩
abbrev cX11_drawn : ByteArray := prog_13_method_131_code
def yX11_drawn : MethodName := ⟨RX11, "drawn", "(III)I"⟩
abbrev cX11_lot : ByteArray := prog_13_method_132_code
def yX11_lot : MethodName := ⟨RX11, "lot", "(III)I"⟩
abbrev cX11_tell : ByteArray := prog_13_method_133_code
def yX11_tell : MethodName := ⟨RX11, "tell", "(III)I"⟩
abbrev cX11_door : ByteArray := prog_13_method_134_code
def yX11_door : MethodName := ⟨RX11, "door", "(III)V"⟩
abbrev cX11_shut : ByteArray := prog_13_method_135_code
def yX11_shut : MethodName := ⟨RX11, "shut", "(III)I"⟩
abbrev cX11_count : ByteArray := prog_13_method_136_code
def yX11_count : MethodName := ⟨RX11, "count", "(I)I"⟩
abbrev cX11_isSlot : ByteArray := prog_13_method_137_code
def yX11_isSlot : MethodName := ⟨RX11, "isSlot", "(I)Z"⟩
abbrev cX11_cut : ByteArray := prog_13_method_138_code
def yX11_cut : MethodName := ⟨RX11, "cut", "(JI)J"⟩
abbrev cX11_row : ByteArray := prog_13_method_139_code
def yX11_row : MethodName := ⟨RX11, "row", "(III)I"⟩
abbrev cX11_write : ByteArray := prog_13_method_140_code
def yX11_write : MethodName := ⟨RX11, "write", "(IIJ)I"⟩
abbrev cX11_paste : ByteArray := prog_13_method_141_code
def yX11_paste : MethodName := ⟨RX11, "paste", "(IIIII)I"⟩
def RJ7 : String := "java/util/Arrays"
def TJ7 : u_T := fun k => match k with
  | _ => ("", "", "", false)
def tyJ7 : Nat → FieldType := fun k => match k with
  | _ => .int
abbrev wsJ70 : List Cond := u_ws RJ7 TJ7 0
theorem nmJ7 : ∀ a, a < 0 → ∀ b, b < 0 → a ≠ b → (TJ7 a).2.1 ≠ (TJ7 b).2.1 := by decide +kernel
theorem tyJ7_ok : ∀ k, k < 0 → parseFieldDescriptor (TJ7 k).2.2.1 = some (tyJ7 k) := by decide +kernel
abbrev cJ7_fill_d0a16 : ByteArray := prog_20_method_101_code
def yJ7_fill_d0a16 : MethodName := ⟨RJ7, "fill", "([JJ)V"⟩
abbrev cJ7_fill_53178 : ByteArray := prog_20_method_103_code
def yJ7_fill_53178 : MethodName := ⟨RJ7, "fill", "([II)V"⟩
def RL : String := "CallForBrownLaw"
abbrev cL_law : ByteArray := code
def yL_law : MethodName := ⟨RL, "law", "([I)Z"⟩
abbrev vwCl : List vw_C := [(RX0, TX0, 3), (RX1, TX1, 7), (RX2, TX2, 3), (RX3, TX3, 14), (RX4, TX4, 1), (RX5, TX5, 4), (RX6, TX6, 7), (RX7, TX7, 4), (RX8, TX8, 4), (RX9, TX9, 2), (RX10, TX10, 12), (RX11, TX11, 35)]
