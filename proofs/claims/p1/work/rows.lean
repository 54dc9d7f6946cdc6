section
-- ===== PART A: goes FIRST, ahead of the names: the tables' words, and 'selects' of the private methods out of them =====
/-- a private method of a class that the tables say can be made, by its rows of tables_1 -/
def lw_okq (q : MethodName × Nat) : Prop := (q.1.cls ≠ "java/lang/invoke/MethodHandle" ∧ q.1.cls ≠ "java/lang/invoke/VarHandle") ∧ Cond.instantiable q.1.cls q.2 ∈ tables_1 ∧ Cond.privateMethod q.1 ∈ tables_1 ∧ Cond.instanceMethod q.1 ∈ tables_1
theorem lw_p0 : lw_okq (⟨"CallForBrown$Reader", "advance", "()V"⟩, 7) := ⟨⟨by decide +kernel, by decide +kernel⟩, List.mem_of_getElem? (i := 30) (by decide +kernel), List.mem_of_getElem? (i := 370) (by decide +kernel), List.mem_of_getElem? (i := 371) (by decide +kernel)⟩
theorem lw_p1 : lw_okq (⟨"CallForBrown$Reader", "isBlank", "(I)Z"⟩, 7) := ⟨⟨by decide +kernel, by decide +kernel⟩, List.mem_of_getElem? (i := 30) (by decide +kernel), List.mem_of_getElem? (i := 378) (by decide +kernel), List.mem_of_getElem? (i := 379) (by decide +kernel)⟩
theorem lw_p2 : lw_okq (⟨"CallForBrown$Reader", "kindOf", "(I)I"⟩, 7) := ⟨⟨by decide +kernel, by decide +kernel⟩, List.mem_of_getElem? (i := 30) (by decide +kernel), List.mem_of_getElem? (i := 382) (by decide +kernel), List.mem_of_getElem? (i := 383) (by decide +kernel)⟩
theorem lw_p3 : lw_okq (⟨"CallForBrown$Reader", "readLine", "(LCallForBrown$House;)Z"⟩, 7) := ⟨⟨by decide +kernel, by decide +kernel⟩, List.mem_of_getElem? (i := 30) (by decide +kernel), List.mem_of_getElem? (i := 387) (by decide +kernel), List.mem_of_getElem? (i := 388) (by decide +kernel)⟩
theorem lw_p4 : lw_okq (⟨"CallForBrown$Reader", "isWord", "(Ljava/lang/String;)Z"⟩, 7) := ⟨⟨by decide +kernel, by decide +kernel⟩, List.mem_of_getElem? (i := 30) (by decide +kernel), List.mem_of_getElem? (i := 392) (by decide +kernel), List.mem_of_getElem? (i := 393) (by decide +kernel)⟩
theorem lw_p5 : lw_okq (⟨"CallForBrown$Reader", "fail", "(I)Z"⟩, 7) := ⟨⟨by decide +kernel, by decide +kernel⟩, List.mem_of_getElem? (i := 30) (by decide +kernel), List.mem_of_getElem? (i := 444) (by decide +kernel), List.mem_of_getElem? (i := 445) (by decide +kernel)⟩
theorem lw_p6 : lw_okq (⟨"CallForBrown$Reader", "readFirst", "(LCallForBrown$House;)Z"⟩, 7) := ⟨⟨by decide +kernel, by decide +kernel⟩, List.mem_of_getElem? (i := 30) (by decide +kernel), List.mem_of_getElem? (i := 448) (by decide +kernel), List.mem_of_getElem? (i := 449) (by decide +kernel)⟩
theorem lw_p7 : lw_okq (⟨"CallForBrown$Reader", "takeNamed", "(Ljava/lang/String;II)I"⟩, 7) := ⟨⟨by decide +kernel, by decide +kernel⟩, List.mem_of_getElem? (i := 30) (by decide +kernel), List.mem_of_getElem? (i := 453) (by decide +kernel), List.mem_of_getElem? (i := 454) (by decide +kernel)⟩
theorem lw_p8 : lw_okq (⟨"CallForBrown$Reader", "takeNumber", "(III)I"⟩, 7) := ⟨⟨by decide +kernel, by decide +kernel⟩, List.mem_of_getElem? (i := 30) (by decide +kernel), List.mem_of_getElem? (i := 457) (by decide +kernel), List.mem_of_getElem? (i := 458) (by decide +kernel)⟩
theorem lw_p9 : lw_okq (⟨"CallForBrown$Reader", "readRoom", "(LCallForBrown$House;)Z"⟩, 7) := ⟨⟨by decide +kernel, by decide +kernel⟩, List.mem_of_getElem? (i := 30) (by decide +kernel), List.mem_of_getElem? (i := 465) (by decide +kernel), List.mem_of_getElem? (i := 466) (by decide +kernel)⟩
theorem lw_p10 : lw_okq (⟨"CallForBrown$Reader", "readDoor", "(LCallForBrown$House;)Z"⟩, 7) := ⟨⟨by decide +kernel, by decide +kernel⟩, List.mem_of_getElem? (i := 30) (by decide +kernel), List.mem_of_getElem? (i := 480) (by decide +kernel), List.mem_of_getElem? (i := 481) (by decide +kernel)⟩
theorem lw_p11 : lw_okq (⟨"CallForBrown$Reader", "readMan", "(LCallForBrown$House;)Z"⟩, 7) := ⟨⟨by decide +kernel, by decide +kernel⟩, List.mem_of_getElem? (i := 30) (by decide +kernel), List.mem_of_getElem? (i := 493) (by decide +kernel), List.mem_of_getElem? (i := 494) (by decide +kernel)⟩
theorem lw_p12 : lw_okq (⟨"CallForBrown$Reader", "takeQuestions", "()I"⟩, 7) := ⟨⟨by decide +kernel, by decide +kernel⟩, List.mem_of_getElem? (i := 30) (by decide +kernel), List.mem_of_getElem? (i := 499) (by decide +kernel), List.mem_of_getElem? (i := 500) (by decide +kernel)⟩
theorem lw_p13 : lw_okq (⟨"CallForBrown$Reader", "readSlate", "(LCallForBrown$House;)Z"⟩, 7) := ⟨⟨by decide +kernel, by decide +kernel⟩, List.mem_of_getElem? (i := 30) (by decide +kernel), List.mem_of_getElem? (i := 508) (by decide +kernel), List.mem_of_getElem? (i := 509) (by decide +kernel)⟩
theorem lw_p14 : lw_okq (⟨"CallForBrown$Reader", "takeSign", "()Z"⟩, 7) := ⟨⟨by decide +kernel, by decide +kernel⟩, List.mem_of_getElem? (i := 30) (by decide +kernel), List.mem_of_getElem? (i := 517) (by decide +kernel), List.mem_of_getElem? (i := 518) (by decide +kernel)⟩
theorem lw_p15 : lw_okq (⟨"CallForBrown", "replay", "()V"⟩, 12) := ⟨⟨by decide +kernel, by decide +kernel⟩, List.mem_of_getElem? (i := 22) (by decide +kernel), List.mem_of_getElem? (i := 528) (by decide +kernel), List.mem_of_getElem? (i := 529) (by decide +kernel)⟩
def lw_privs_1 : List (MethodName × Nat) := [(⟨"CallForBrown$Reader", "advance", "()V"⟩, 7), (⟨"CallForBrown$Reader", "isBlank", "(I)Z"⟩, 7), (⟨"CallForBrown$Reader", "kindOf", "(I)I"⟩, 7), (⟨"CallForBrown$Reader", "readLine", "(LCallForBrown$House;)Z"⟩, 7), (⟨"CallForBrown$Reader", "isWord", "(Ljava/lang/String;)Z"⟩, 7), (⟨"CallForBrown$Reader", "fail", "(I)Z"⟩, 7), (⟨"CallForBrown$Reader", "readFirst", "(LCallForBrown$House;)Z"⟩, 7), (⟨"CallForBrown$Reader", "takeNamed", "(Ljava/lang/String;II)I"⟩, 7), (⟨"CallForBrown$Reader", "takeNumber", "(III)I"⟩, 7), (⟨"CallForBrown$Reader", "readRoom", "(LCallForBrown$House;)Z"⟩, 7), (⟨"CallForBrown$Reader", "readDoor", "(LCallForBrown$House;)Z"⟩, 7), (⟨"CallForBrown$Reader", "readMan", "(LCallForBrown$House;)Z"⟩, 7), (⟨"CallForBrown$Reader", "takeQuestions", "()I"⟩, 7), (⟨"CallForBrown$Reader", "readSlate", "(LCallForBrown$House;)Z"⟩, 7), (⟨"CallForBrown$Reader", "takeSign", "()Z"⟩, 7), (⟨"CallForBrown", "replay", "()V"⟩, 12)]
theorem lw_r1 : ∀ q ∈ lw_privs_1, lw_okq q := List.forall_mem_cons.mpr ⟨lw_p0, List.forall_mem_cons.mpr ⟨lw_p1, List.forall_mem_cons.mpr ⟨lw_p2, List.forall_mem_cons.mpr ⟨lw_p3, List.forall_mem_cons.mpr ⟨lw_p4, List.forall_mem_cons.mpr ⟨lw_p5, List.forall_mem_cons.mpr ⟨lw_p6, List.forall_mem_cons.mpr ⟨lw_p7, List.forall_mem_cons.mpr ⟨lw_p8, List.forall_mem_cons.mpr ⟨lw_p9, List.forall_mem_cons.mpr ⟨lw_p10, List.forall_mem_cons.mpr ⟨lw_p11, List.forall_mem_cons.mpr ⟨lw_p12, List.forall_mem_cons.mpr ⟨lw_p13, List.forall_mem_cons.mpr ⟨lw_p14, List.forall_mem_cons.mpr ⟨lw_p15, fun _ h => absurd h List.not_mem_nil⟩⟩⟩⟩⟩⟩⟩⟩⟩⟩⟩⟩⟩⟩⟩⟩
theorem lw_p16 : lw_okq (⟨"CallForBrown$Parts", "leave", "(LCallForBrown$House;I)V"⟩, 4) := ⟨⟨by decide +kernel, by decide +kernel⟩, List.mem_of_getElem? (i := 187) (by decide +kernel), List.mem_of_getElem? (i := 560) (by decide +kernel), List.mem_of_getElem? (i := 561) (by decide +kernel)⟩
theorem lw_p17 : lw_okq (⟨"CallForBrown", "isRoom", "(I)Z"⟩, 12) := ⟨⟨by decide +kernel, by decide +kernel⟩, List.mem_of_getElem? (i := 22) (by decide +kernel), List.mem_of_getElem? (i := 578) (by decide +kernel), List.mem_of_getElem? (i := 579) (by decide +kernel)⟩
theorem lw_p18 : lw_okq (⟨"CallForBrown", "isMan", "(I)Z"⟩, 12) := ⟨⟨by decide +kernel, by decide +kernel⟩, List.mem_of_getElem? (i := 22) (by decide +kernel), List.mem_of_getElem? (i := 591) (by decide +kernel), List.mem_of_getElem? (i := 592) (by decide +kernel)⟩
theorem lw_p19 : lw_okq (⟨"CallForBrown", "isRoomOrOut", "(I)Z"⟩, 12) := ⟨⟨by decide +kernel, by decide +kernel⟩, List.mem_of_getElem? (i := 22) (by decide +kernel), List.mem_of_getElem? (i := 608) (by decide +kernel), List.mem_of_getElem? (i := 609) (by decide +kernel)⟩
theorem lw_p20 : lw_okq (⟨"CallForBrown", "hasHouse", "()Z"⟩, 12) := ⟨⟨by decide +kernel, by decide +kernel⟩, List.mem_of_getElem? (i := 22) (by decide +kernel), List.mem_of_getElem? (i := 612) (by decide +kernel), List.mem_of_getElem? (i := 613) (by decide +kernel)⟩
theorem lw_p21 : lw_okq (⟨"CallForBrown", "askRound", "(IZ)I"⟩, 12) := ⟨⟨by decide +kernel, by decide +kernel⟩, List.mem_of_getElem? (i := 22) (by decide +kernel), List.mem_of_getElem? (i := 672) (by decide +kernel), List.mem_of_getElem? (i := 673) (by decide +kernel)⟩
theorem lw_p22 : lw_okq (⟨"CallForBrown", "askRow", "(IZI)I"⟩, 12) := ⟨⟨by decide +kernel, by decide +kernel⟩, List.mem_of_getElem? (i := 22) (by decide +kernel), List.mem_of_getElem? (i := 676) (by decide +kernel), List.mem_of_getElem? (i := 677) (by decide +kernel)⟩
theorem lw_p23 : lw_okq (⟨"CallForBrown", "isSlot", "(I)Z"⟩, 12) := ⟨⟨by decide +kernel, by decide +kernel⟩, List.mem_of_getElem? (i := 22) (by decide +kernel), List.mem_of_getElem? (i := 680) (by decide +kernel), List.mem_of_getElem? (i := 681) (by decide +kernel)⟩
theorem lw_p24 : lw_okq (⟨"CallForBrown", "foundIn", "(LCallForBrown$Row;I)I"⟩, 12) := ⟨⟨by decide +kernel, by decide +kernel⟩, List.mem_of_getElem? (i := 22) (by decide +kernel), List.mem_of_getElem? (i := 688) (by decide +kernel), List.mem_of_getElem? (i := 689) (by decide +kernel)⟩
theorem lw_p25 : lw_okq (⟨"CallForBrown", "gainOf", "(II)I"⟩, 12) := ⟨⟨by decide +kernel, by decide +kernel⟩, List.mem_of_getElem? (i := 22) (by decide +kernel), List.mem_of_getElem? (i := 709) (by decide +kernel), List.mem_of_getElem? (i := 710) (by decide +kernel)⟩
theorem lw_p26 : lw_okq (⟨"CallForBrown", "worthOf", "(I)I"⟩, 12) := ⟨⟨by decide +kernel, by decide +kernel⟩, List.mem_of_getElem? (i := 22) (by decide +kernel), List.mem_of_getElem? (i := 713) (by decide +kernel), List.mem_of_getElem? (i := 714) (by decide +kernel)⟩
theorem lw_p27 : lw_okq (⟨"CallForBrown", "isPartOfMillion", "(I)Z"⟩, 12) := ⟨⟨by decide +kernel, by decide +kernel⟩, List.mem_of_getElem? (i := 22) (by decide +kernel), List.mem_of_getElem? (i := 726) (by decide +kernel), List.mem_of_getElem? (i := 727) (by decide +kernel)⟩
theorem lw_p28 : lw_okq (⟨"CallForBrown", "canWalk", "(LCallForBrown$Row;I)Z"⟩, 12) := ⟨⟨by decide +kernel, by decide +kernel⟩, List.mem_of_getElem? (i := 22) (by decide +kernel), List.mem_of_getElem? (i := 734) (by decide +kernel), List.mem_of_getElem? (i := 735) (by decide +kernel)⟩
theorem lw_p29 : lw_okq (⟨"CallForBrown", "isBestLength", "(I)Z"⟩, 12) := ⟨⟨by decide +kernel, by decide +kernel⟩, List.mem_of_getElem? (i := 22) (by decide +kernel), List.mem_of_getElem? (i := 759) (by decide +kernel), List.mem_of_getElem? (i := 760) (by decide +kernel)⟩
theorem lw_p30 : lw_okq (⟨"CallForBrown$Boy", "seek", "(LCallForBrown$House;III)I"⟩, 3) := ⟨⟨by decide +kernel, by decide +kernel⟩, List.mem_of_getElem? (i := 208) (by decide +kernel), List.mem_of_getElem? (i := 768) (by decide +kernel), List.mem_of_getElem? (i := 769) (by decide +kernel)⟩
theorem lw_p31 : lw_okq (⟨"CallForBrown$Boy", "calling", "(LCallForBrown$House;III)I"⟩, 3) := ⟨⟨by decide +kernel, by decide +kernel⟩, List.mem_of_getElem? (i := 208) (by decide +kernel), List.mem_of_getElem? (i := 773) (by decide +kernel), List.mem_of_getElem? (i := 774) (by decide +kernel)⟩
def lw_privs_2 : List (MethodName × Nat) := [(⟨"CallForBrown$Parts", "leave", "(LCallForBrown$House;I)V"⟩, 4), (⟨"CallForBrown", "isRoom", "(I)Z"⟩, 12), (⟨"CallForBrown", "isMan", "(I)Z"⟩, 12), (⟨"CallForBrown", "isRoomOrOut", "(I)Z"⟩, 12), (⟨"CallForBrown", "hasHouse", "()Z"⟩, 12), (⟨"CallForBrown", "askRound", "(IZ)I"⟩, 12), (⟨"CallForBrown", "askRow", "(IZI)I"⟩, 12), (⟨"CallForBrown", "isSlot", "(I)Z"⟩, 12), (⟨"CallForBrown", "foundIn", "(LCallForBrown$Row;I)I"⟩, 12), (⟨"CallForBrown", "gainOf", "(II)I"⟩, 12), (⟨"CallForBrown", "worthOf", "(I)I"⟩, 12), (⟨"CallForBrown", "isPartOfMillion", "(I)Z"⟩, 12), (⟨"CallForBrown", "canWalk", "(LCallForBrown$Row;I)Z"⟩, 12), (⟨"CallForBrown", "isBestLength", "(I)Z"⟩, 12), (⟨"CallForBrown$Boy", "seek", "(LCallForBrown$House;III)I"⟩, 3), (⟨"CallForBrown$Boy", "calling", "(LCallForBrown$House;III)I"⟩, 3)]
theorem lw_r2 : ∀ q ∈ lw_privs_2, lw_okq q := List.forall_mem_cons.mpr ⟨lw_p16, List.forall_mem_cons.mpr ⟨lw_p17, List.forall_mem_cons.mpr ⟨lw_p18, List.forall_mem_cons.mpr ⟨lw_p19, List.forall_mem_cons.mpr ⟨lw_p20, List.forall_mem_cons.mpr ⟨lw_p21, List.forall_mem_cons.mpr ⟨lw_p22, List.forall_mem_cons.mpr ⟨lw_p23, List.forall_mem_cons.mpr ⟨lw_p24, List.forall_mem_cons.mpr ⟨lw_p25, List.forall_mem_cons.mpr ⟨lw_p26, List.forall_mem_cons.mpr ⟨lw_p27, List.forall_mem_cons.mpr ⟨lw_p28, List.forall_mem_cons.mpr ⟨lw_p29, List.forall_mem_cons.mpr ⟨lw_p30, List.forall_mem_cons.mpr ⟨lw_p31, fun _ h => absurd h List.not_mem_nil⟩⟩⟩⟩⟩⟩⟩⟩⟩⟩⟩⟩⟩⟩⟩⟩
theorem lw_p32 : lw_okq (⟨"CallForBrown$Boy", "keepWay", "(II)V"⟩, 3) := ⟨⟨by decide +kernel, by decide +kernel⟩, List.mem_of_getElem? (i := 208) (by decide +kernel), List.mem_of_getElem? (i := 779) (by decide +kernel), List.mem_of_getElem? (i := 780) (by decide +kernel)⟩
theorem lw_p33 : lw_okq (⟨"CallForBrown", "foundAtOnce", "(I)I"⟩, 12) := ⟨⟨by decide +kernel, by decide +kernel⟩, List.mem_of_getElem? (i := 22) (by decide +kernel), List.mem_of_getElem? (i := 827) (by decide +kernel), List.mem_of_getElem? (i := 828) (by decide +kernel)⟩
theorem lw_p34 : lw_okq (⟨"CallForBrown", "quietestSet", "(I)I"⟩, 12) := ⟨⟨by decide +kernel, by decide +kernel⟩, List.mem_of_getElem? (i := 22) (by decide +kernel), List.mem_of_getElem? (i := 836) (by decide +kernel), List.mem_of_getElem? (i := 837) (by decide +kernel)⟩
theorem lw_p35 : lw_okq (⟨"CallForBrown", "peopleOf", "(I)I"⟩, 12) := ⟨⟨by decide +kernel, by decide +kernel⟩, List.mem_of_getElem? (i := 22) (by decide +kernel), List.mem_of_getElem? (i := 840) (by decide +kernel), List.mem_of_getElem? (i := 841) (by decide +kernel)⟩
theorem lw_p36 : lw_okq (⟨"CallForBrown", "comesInto", "(II)I"⟩, 12) := ⟨⟨by decide +kernel, by decide +kernel⟩, List.mem_of_getElem? (i := 22) (by decide +kernel), List.mem_of_getElem? (i := 852) (by decide +kernel), List.mem_of_getElem? (i := 853) (by decide +kernel)⟩
theorem lw_p37 : lw_okq (⟨"CallForBrown$Chase", "reach", "(IIII)V"⟩, 7) := ⟨⟨by decide +kernel, by decide +kernel⟩, List.mem_of_getElem? (i := 229) (by decide +kernel), List.mem_of_getElem? (i := 872) (by decide +kernel), List.mem_of_getElem? (i := 873) (by decide +kernel)⟩
theorem lw_p38 : lw_okq (⟨"CallForBrown$Chase", "goOn", "(LCallForBrown$House;IZ)V"⟩, 7) := ⟨⟨by decide +kernel, by decide +kernel⟩, List.mem_of_getElem? (i := 229) (by decide +kernel), List.mem_of_getElem? (i := 876) (by decide +kernel), List.mem_of_getElem? (i := 877) (by decide +kernel)⟩
theorem lw_p39 : lw_okq (⟨"CallForBrown$Chase", "findLeaders", "(LCallForBrown$House;)V"⟩, 7) := ⟨⟨by decide +kernel, by decide +kernel⟩, List.mem_of_getElem? (i := 229) (by decide +kernel), List.mem_of_getElem? (i := 912) (by decide +kernel), List.mem_of_getElem? (i := 913) (by decide +kernel)⟩
theorem lw_p40 : lw_okq (⟨"CallForBrown", "isSet", "(I)Z"⟩, 12) := ⟨⟨by decide +kernel, by decide +kernel⟩, List.mem_of_getElem? (i := 22) (by decide +kernel), List.mem_of_getElem? (i := 929) (by decide +kernel), List.mem_of_getElem? (i := 930) (by decide +kernel)⟩
theorem lw_p41 : lw_okq (⟨"CallForBrown$Men", "fewestOf", "(LCallForBrown$House;I)I"⟩, 1) := ⟨⟨by decide +kernel, by decide +kernel⟩, List.mem_of_getElem? (i := 258) (by decide +kernel), List.mem_of_getElem? (i := 937) (by decide +kernel), List.mem_of_getElem? (i := 938) (by decide +kernel)⟩
theorem lw_p42 : lw_okq (⟨"CallForBrown$Men", "askedFirst", "(LCallForBrown$House;II)I"⟩, 1) := ⟨⟨by decide +kernel, by decide +kernel⟩, List.mem_of_getElem? (i := 258) (by decide +kernel), List.mem_of_getElem? (i := 942) (by decide +kernel), List.mem_of_getElem? (i := 943) (by decide +kernel)⟩
theorem lw_p43 : lw_okq (⟨"CallForBrown$Men", "areApart", "(LCallForBrown$House;II)Z"⟩, 1) := ⟨⟨by decide +kernel, by decide +kernel⟩, List.mem_of_getElem? (i := 258) (by decide +kernel), List.mem_of_getElem? (i := 975) (by decide +kernel), List.mem_of_getElem? (i := 976) (by decide +kernel)⟩
theorem lw_p44 : lw_okq (⟨"CallForBrown$Men", "greatestDivisor", "(JJ)J"⟩, 1) := ⟨⟨by decide +kernel, by decide +kernel⟩, List.mem_of_getElem? (i := 258) (by decide +kernel), List.mem_of_getElem? (i := 987) (by decide +kernel), List.mem_of_getElem? (i := 988) (by decide +kernel)⟩
theorem lw_p45 : lw_okq (⟨"CallForBrown$Men", "hasAs", "(LCallForBrown$House;II)I"⟩, 1) := ⟨⟨by decide +kernel, by decide +kernel⟩, List.mem_of_getElem? (i := 258) (by decide +kernel), List.mem_of_getElem? (i := 1000) (by decide +kernel), List.mem_of_getElem? (i := 1001) (by decide +kernel)⟩
theorem lw_p46 : lw_okq (⟨"CallForBrown$Men", "slateSum", "(LCallForBrown$House;I)I"⟩, 1) := ⟨⟨by decide +kernel, by decide +kernel⟩, List.mem_of_getElem? (i := 258) (by decide +kernel), List.mem_of_getElem? (i := 1004) (by decide +kernel), List.mem_of_getElem? (i := 1005) (by decide +kernel)⟩
theorem lw_p47 : lw_okq (⟨"CallForBrown$Men", "hasInAll", "(LCallForBrown$House;I)I"⟩, 1) := ⟨⟨by decide +kernel, by decide +kernel⟩, List.mem_of_getElem? (i := 258) (by decide +kernel), List.mem_of_getElem? (i := 1008) (by decide +kernel), List.mem_of_getElem? (i := 1009) (by decide +kernel)⟩
def lw_privs_3 : List (MethodName × Nat) := [(⟨"CallForBrown$Boy", "keepWay", "(II)V"⟩, 3), (⟨"CallForBrown", "foundAtOnce", "(I)I"⟩, 12), (⟨"CallForBrown", "quietestSet", "(I)I"⟩, 12), (⟨"CallForBrown", "peopleOf", "(I)I"⟩, 12), (⟨"CallForBrown", "comesInto", "(II)I"⟩, 12), (⟨"CallForBrown$Chase", "reach", "(IIII)V"⟩, 7), (⟨"CallForBrown$Chase", "goOn", "(LCallForBrown$House;IZ)V"⟩, 7), (⟨"CallForBrown$Chase", "findLeaders", "(LCallForBrown$House;)V"⟩, 7), (⟨"CallForBrown", "isSet", "(I)Z"⟩, 12), (⟨"CallForBrown$Men", "fewestOf", "(LCallForBrown$House;I)I"⟩, 1), (⟨"CallForBrown$Men", "askedFirst", "(LCallForBrown$House;II)I"⟩, 1), (⟨"CallForBrown$Men", "areApart", "(LCallForBrown$House;II)Z"⟩, 1), (⟨"CallForBrown$Men", "greatestDivisor", "(JJ)J"⟩, 1), (⟨"CallForBrown$Men", "hasAs", "(LCallForBrown$House;II)I"⟩, 1), (⟨"CallForBrown$Men", "slateSum", "(LCallForBrown$House;I)I"⟩, 1), (⟨"CallForBrown$Men", "hasInAll", "(LCallForBrown$House;I)I"⟩, 1)]
theorem lw_r3 : ∀ q ∈ lw_privs_3, lw_okq q := List.forall_mem_cons.mpr ⟨lw_p32, List.forall_mem_cons.mpr ⟨lw_p33, List.forall_mem_cons.mpr ⟨lw_p34, List.forall_mem_cons.mpr ⟨lw_p35, List.forall_mem_cons.mpr ⟨lw_p36, List.forall_mem_cons.mpr ⟨lw_p37, List.forall_mem_cons.mpr ⟨lw_p38, List.forall_mem_cons.mpr ⟨lw_p39, List.forall_mem_cons.mpr ⟨lw_p40, List.forall_mem_cons.mpr ⟨lw_p41, List.forall_mem_cons.mpr ⟨lw_p42, List.forall_mem_cons.mpr ⟨lw_p43, List.forall_mem_cons.mpr ⟨lw_p44, List.forall_mem_cons.mpr ⟨lw_p45, List.forall_mem_cons.mpr ⟨lw_p46, List.forall_mem_cons.mpr ⟨lw_p47, fun _ h => absurd h List.not_mem_nil⟩⟩⟩⟩⟩⟩⟩⟩⟩⟩⟩⟩⟩⟩⟩⟩
theorem lw_p48 : lw_okq (⟨"CallForBrown", "askHabits", "(IZ)I"⟩, 12) := ⟨⟨by decide +kernel, by decide +kernel⟩, List.mem_of_getElem? (i := 22) (by decide +kernel), List.mem_of_getElem? (i := 1029) (by decide +kernel), List.mem_of_getElem? (i := 1030) (by decide +kernel)⟩
theorem lw_p49 : lw_okq (⟨"CallForBrown", "mostFrequent", "(LCallForBrown$Row;I)I"⟩, 12) := ⟨⟨by decide +kernel, by decide +kernel⟩, List.mem_of_getElem? (i := 22) (by decide +kernel), List.mem_of_getElem? (i := 1033) (by decide +kernel), List.mem_of_getElem? (i := 1034) (by decide +kernel)⟩
theorem lw_p50 : lw_okq (⟨"CallForBrown", "isSeed", "(I)Z"⟩, 12) := ⟨⟨by decide +kernel, by decide +kernel⟩, List.mem_of_getElem? (i := 22) (by decide +kernel), List.mem_of_getElem? (i := 1057) (by decide +kernel), List.mem_of_getElem? (i := 1058) (by decide +kernel)⟩
theorem lw_p51 : lw_okq (⟨"CallForBrown$Evening", "takeSeat", "(LCallForBrown$House;)I"⟩, 3) := ⟨⟨by decide +kernel, by decide +kernel⟩, List.mem_of_getElem? (i := 268) (by decide +kernel), List.mem_of_getElem? (i := 1066) (by decide +kernel), List.mem_of_getElem? (i := 1067) (by decide +kernel)⟩
theorem lw_p52 : lw_okq (⟨"CallForBrown$Evening", "next", "(I)I"⟩, 3) := ⟨⟨by decide +kernel, by decide +kernel⟩, List.mem_of_getElem? (i := 268) (by decide +kernel), List.mem_of_getElem? (i := 1070) (by decide +kernel), List.mem_of_getElem? (i := 1071) (by decide +kernel)⟩
theorem lw_p53 : lw_okq (⟨"CallForBrown$Evening", "move", "(LCallForBrown$House;)V"⟩, 3) := ⟨⟨by decide +kernel, by decide +kernel⟩, List.mem_of_getElem? (i := 268) (by decide +kernel), List.mem_of_getElem? (i := 1080) (by decide +kernel), List.mem_of_getElem? (i := 1081) (by decide +kernel)⟩
theorem lw_p54 : lw_okq (⟨"CallForBrown", "countRows", "()I"⟩, 12) := ⟨⟨by decide +kernel, by decide +kernel⟩, List.mem_of_getElem? (i := 22) (by decide +kernel), List.mem_of_getElem? (i := 1113) (by decide +kernel), List.mem_of_getElem? (i := 1114) (by decide +kernel)⟩
theorem lw_p55 : lw_okq (⟨"CallForBrownModel", "advance", "()V"⟩, 35) := ⟨⟨by decide +kernel, by decide +kernel⟩, List.mem_of_getElem? (i := 1157) (by decide +kernel), List.mem_of_getElem? (i := 1297) (by decide +kernel), List.mem_of_getElem? (i := 1298) (by decide +kernel)⟩
theorem lw_p56 : lw_okq (⟨"CallForBrownModel", "see", "(I)I"⟩, 35) := ⟨⟨by decide +kernel, by decide +kernel⟩, List.mem_of_getElem? (i := 1157) (by decide +kernel), List.mem_of_getElem? (i := 1301) (by decide +kernel), List.mem_of_getElem? (i := 1302) (by decide +kernel)⟩
theorem lw_p57 : lw_okq (⟨"CallForBrownModel", "good", "()Z"⟩, 35) := ⟨⟨by decide +kernel, by decide +kernel⟩, List.mem_of_getElem? (i := 1157) (by decide +kernel), List.mem_of_getElem? (i := 1313) (by decide +kernel), List.mem_of_getElem? (i := 1314) (by decide +kernel)⟩
theorem lw_p58 : lw_okq (⟨"CallForBrownModel", "readLine", "()V"⟩, 35) := ⟨⟨by decide +kernel, by decide +kernel⟩, List.mem_of_getElem? (i := 1157) (by decide +kernel), List.mem_of_getElem? (i := 1317) (by decide +kernel), List.mem_of_getElem? (i := 1318) (by decide +kernel)⟩
theorem lw_p59 : lw_okq (⟨"CallForBrownModel", "needs", "(Ljava/lang/String;)V"⟩, 35) := ⟨⟨by decide +kernel, by decide +kernel⟩, List.mem_of_getElem? (i := 1157) (by decide +kernel), List.mem_of_getElem? (i := 1322) (by decide +kernel), List.mem_of_getElem? (i := 1323) (by decide +kernel)⟩
theorem lw_p60 : lw_okq (⟨"CallForBrownModel", "takes", "(Ljava/lang/String;)Z"⟩, 35) := ⟨⟨by decide +kernel, by decide +kernel⟩, List.mem_of_getElem? (i := 1157) (by decide +kernel), List.mem_of_getElem? (i := 1326) (by decide +kernel), List.mem_of_getElem? (i := 1327) (by decide +kernel)⟩
theorem lw_p61 : lw_okq (⟨"CallForBrownModel", "is", "(Ljava/lang/String;)Z"⟩, 35) := ⟨⟨by decide +kernel, by decide +kernel⟩, List.mem_of_getElem? (i := 1157) (by decide +kernel), List.mem_of_getElem? (i := 1330) (by decide +kernel), List.mem_of_getElem? (i := 1331) (by decide +kernel)⟩
theorem lw_p62 : lw_okq (⟨"CallForBrownModel", "errs", "(I)V"⟩, 35) := ⟨⟨by decide +kernel, by decide +kernel⟩, List.mem_of_getElem? (i := 1157) (by decide +kernel), List.mem_of_getElem? (i := 1336) (by decide +kernel), List.mem_of_getElem? (i := 1337) (by decide +kernel)⟩
theorem lw_p63 : lw_okq (⟨"CallForBrownModel", "told", "(Ljava/lang/String;II)I"⟩, 35) := ⟨⟨by decide +kernel, by decide +kernel⟩, List.mem_of_getElem? (i := 1157) (by decide +kernel), List.mem_of_getElem? (i := 1341) (by decide +kernel), List.mem_of_getElem? (i := 1342) (by decide +kernel)⟩
def lw_privs_4 : List (MethodName × Nat) := [(⟨"CallForBrown", "askHabits", "(IZ)I"⟩, 12), (⟨"CallForBrown", "mostFrequent", "(LCallForBrown$Row;I)I"⟩, 12), (⟨"CallForBrown", "isSeed", "(I)Z"⟩, 12), (⟨"CallForBrown$Evening", "takeSeat", "(LCallForBrown$House;)I"⟩, 3), (⟨"CallForBrown$Evening", "next", "(I)I"⟩, 3), (⟨"CallForBrown$Evening", "move", "(LCallForBrown$House;)V"⟩, 3), (⟨"CallForBrown", "countRows", "()I"⟩, 12), (⟨"CallForBrownModel", "advance", "()V"⟩, 35), (⟨"CallForBrownModel", "see", "(I)I"⟩, 35), (⟨"CallForBrownModel", "good", "()Z"⟩, 35), (⟨"CallForBrownModel", "readLine", "()V"⟩, 35), (⟨"CallForBrownModel", "needs", "(Ljava/lang/String;)V"⟩, 35), (⟨"CallForBrownModel", "takes", "(Ljava/lang/String;)Z"⟩, 35), (⟨"CallForBrownModel", "is", "(Ljava/lang/String;)Z"⟩, 35), (⟨"CallForBrownModel", "errs", "(I)V"⟩, 35), (⟨"CallForBrownModel", "told", "(Ljava/lang/String;II)I"⟩, 35)]
theorem lw_r4 : ∀ q ∈ lw_privs_4, lw_okq q := List.forall_mem_cons.mpr ⟨lw_p48, List.forall_mem_cons.mpr ⟨lw_p49, List.forall_mem_cons.mpr ⟨lw_p50, List.forall_mem_cons.mpr ⟨lw_p51, List.forall_mem_cons.mpr ⟨lw_p52, List.forall_mem_cons.mpr ⟨lw_p53, List.forall_mem_cons.mpr ⟨lw_p54, List.forall_mem_cons.mpr ⟨lw_p55, List.forall_mem_cons.mpr ⟨lw_p56, List.forall_mem_cons.mpr ⟨lw_p57, List.forall_mem_cons.mpr ⟨lw_p58, List.forall_mem_cons.mpr ⟨lw_p59, List.forall_mem_cons.mpr ⟨lw_p60, List.forall_mem_cons.mpr ⟨lw_p61, List.forall_mem_cons.mpr ⟨lw_p62, List.forall_mem_cons.mpr ⟨lw_p63, fun _ h => absurd h List.not_mem_nil⟩⟩⟩⟩⟩⟩⟩⟩⟩⟩⟩⟩⟩⟩⟩⟩
theorem lw_p64 : lw_okq (⟨"CallForBrownModel", "number", "(II)I"⟩, 35) := ⟨⟨by decide +kernel, by decide +kernel⟩, List.mem_of_getElem? (i := 1157) (by decide +kernel), List.mem_of_getElem? (i := 1345) (by decide +kernel), List.mem_of_getElem? (i := 1346) (by decide +kernel)⟩
theorem lw_p65 : lw_okq (⟨"CallForBrownModel", "readNext", "()V"⟩, 35) := ⟨⟨by decide +kernel, by decide +kernel⟩, List.mem_of_getElem? (i := 1157) (by decide +kernel), List.mem_of_getElem? (i := 1352) (by decide +kernel), List.mem_of_getElem? (i := 1353) (by decide +kernel)⟩
theorem lw_p66 : lw_okq (⟨"CallForBrownModel", "readRoom", "()V"⟩, 35) := ⟨⟨by decide +kernel, by decide +kernel⟩, List.mem_of_getElem? (i := 1157) (by decide +kernel), List.mem_of_getElem? (i := 1360) (by decide +kernel), List.mem_of_getElem? (i := 1361) (by decide +kernel)⟩
theorem lw_p67 : lw_okq (⟨"CallForBrownModel", "readDoor", "()V"⟩, 35) := ⟨⟨by decide +kernel, by decide +kernel⟩, List.mem_of_getElem? (i := 1157) (by decide +kernel), List.mem_of_getElem? (i := 1367) (by decide +kernel), List.mem_of_getElem? (i := 1368) (by decide +kernel)⟩
theorem lw_p68 : lw_okq (⟨"CallForBrownModel", "freshRoom", "()I"⟩, 35) := ⟨⟨by decide +kernel, by decide +kernel⟩, List.mem_of_getElem? (i := 1157) (by decide +kernel), List.mem_of_getElem? (i := 1371) (by decide +kernel), List.mem_of_getElem? (i := 1372) (by decide +kernel)⟩
theorem lw_p69 : lw_okq (⟨"CallForBrownModel", "readMan", "()V"⟩, 35) := ⟨⟨by decide +kernel, by decide +kernel⟩, List.mem_of_getElem? (i := 1157) (by decide +kernel), List.mem_of_getElem? (i := 1375) (by decide +kernel), List.mem_of_getElem? (i := 1376) (by decide +kernel)⟩
theorem lw_p70 : lw_okq (⟨"CallForBrownModel", "readSlate", "()V"⟩, 35) := ⟨⟨by decide +kernel, by decide +kernel⟩, List.mem_of_getElem? (i := 1157) (by decide +kernel), List.mem_of_getElem? (i := 1381) (by decide +kernel), List.mem_of_getElem? (i := 1382) (by decide +kernel)⟩
theorem lw_p71 : lw_okq (⟨"CallForBrownModel", "freshMan", "()I"⟩, 35) := ⟨⟨by decide +kernel, by decide +kernel⟩, List.mem_of_getElem? (i := 1157) (by decide +kernel), List.mem_of_getElem? (i := 1385) (by decide +kernel), List.mem_of_getElem? (i := 1386) (by decide +kernel)⟩
theorem lw_p72 : lw_okq (⟨"CallForBrownModel", "isRoom", "(J)Z"⟩, 35) := ⟨⟨by decide +kernel, by decide +kernel⟩, List.mem_of_getElem? (i := 1157) (by decide +kernel), List.mem_of_getElem? (i := 1394) (by decide +kernel), List.mem_of_getElem? (i := 1395) (by decide +kernel)⟩
theorem lw_p73 : lw_okq (⟨"CallForBrownModel", "of", "(II)I"⟩, 35) := ⟨⟨by decide +kernel, by decide +kernel⟩, List.mem_of_getElem? (i := 1157) (by decide +kernel), List.mem_of_getElem? (i := 1399) (by decide +kernel), List.mem_of_getElem? (i := 1400) (by decide +kernel)⟩
theorem lw_p74 : lw_okq (⟨"CallForBrownModel", "isMan", "(I)Z"⟩, 35) := ⟨⟨by decide +kernel, by decide +kernel⟩, List.mem_of_getElem? (i := 1157) (by decide +kernel), List.mem_of_getElem? (i := 1407) (by decide +kernel), List.mem_of_getElem? (i := 1408) (by decide +kernel)⟩
theorem lw_p75 : lw_okq (⟨"CallForBrownModel", "ofMan", "(II)I"⟩, 35) := ⟨⟨by decide +kernel, by decide +kernel⟩, List.mem_of_getElem? (i := 1157) (by decide +kernel), List.mem_of_getElem? (i := 1411) (by decide +kernel), List.mem_of_getElem? (i := 1412) (by decide +kernel)⟩
theorem lw_p76 : lw_okq (⟨"CallForBrownModel", "hearsBy", "(II)I"⟩, 35) := ⟨⟨by decide +kernel, by decide +kernel⟩, List.mem_of_getElem? (i := 1157) (by decide +kernel), List.mem_of_getElem? (i := 1424) (by decide +kernel), List.mem_of_getElem? (i := 1425) (by decide +kernel)⟩
theorem lw_p77 : lw_okq (⟨"CallForBrownModel", "isRoomOrNone", "(J)Z"⟩, 35) := ⟨⟨by decide +kernel, by decide +kernel⟩, List.mem_of_getElem? (i := 1157) (by decide +kernel), List.mem_of_getElem? (i := 1432) (by decide +kernel), List.mem_of_getElem? (i := 1433) (by decide +kernel)⟩
theorem lw_p78 : lw_okq (⟨"CallForBrownModel", "isHouse", "()Z"⟩, 35) := ⟨⟨by decide +kernel, by decide +kernel⟩, List.mem_of_getElem? (i := 1157) (by decide +kernel), List.mem_of_getElem? (i := 1436) (by decide +kernel), List.mem_of_getElem? (i := 1437) (by decide +kernel)⟩
theorem lw_p79 : lw_okq (⟨"CallForBrownModel", "asItIs", "()V"⟩, 35) := ⟨⟨by decide +kernel, by decide +kernel⟩, List.mem_of_getElem? (i := 1157) (by decide +kernel), List.mem_of_getElem? (i := 1441) (by decide +kernel), List.mem_of_getElem? (i := 1442) (by decide +kernel)⟩
def lw_privs_5 : List (MethodName × Nat) := [(⟨"CallForBrownModel", "number", "(II)I"⟩, 35), (⟨"CallForBrownModel", "readNext", "()V"⟩, 35), (⟨"CallForBrownModel", "readRoom", "()V"⟩, 35), (⟨"CallForBrownModel", "readDoor", "()V"⟩, 35), (⟨"CallForBrownModel", "freshRoom", "()I"⟩, 35), (⟨"CallForBrownModel", "readMan", "()V"⟩, 35), (⟨"CallForBrownModel", "readSlate", "()V"⟩, 35), (⟨"CallForBrownModel", "freshMan", "()I"⟩, 35), (⟨"CallForBrownModel", "isRoom", "(J)Z"⟩, 35), (⟨"CallForBrownModel", "of", "(II)I"⟩, 35), (⟨"CallForBrownModel", "isMan", "(I)Z"⟩, 35), (⟨"CallForBrownModel", "ofMan", "(II)I"⟩, 35), (⟨"CallForBrownModel", "hearsBy", "(II)I"⟩, 35), (⟨"CallForBrownModel", "isRoomOrNone", "(J)Z"⟩, 35), (⟨"CallForBrownModel", "isHouse", "()Z"⟩, 35), (⟨"CallForBrownModel", "asItIs", "()V"⟩, 35)]
theorem lw_r5 : ∀ q ∈ lw_privs_5, lw_okq q := List.forall_mem_cons.mpr ⟨lw_p64, List.forall_mem_cons.mpr ⟨lw_p65, List.forall_mem_cons.mpr ⟨lw_p66, List.forall_mem_cons.mpr ⟨lw_p67, List.forall_mem_cons.mpr ⟨lw_p68, List.forall_mem_cons.mpr ⟨lw_p69, List.forall_mem_cons.mpr ⟨lw_p70, List.forall_mem_cons.mpr ⟨lw_p71, List.forall_mem_cons.mpr ⟨lw_p72, List.forall_mem_cons.mpr ⟨lw_p73, List.forall_mem_cons.mpr ⟨lw_p74, List.forall_mem_cons.mpr ⟨lw_p75, List.forall_mem_cons.mpr ⟨lw_p76, List.forall_mem_cons.mpr ⟨lw_p77, List.forall_mem_cons.mpr ⟨lw_p78, List.forall_mem_cons.mpr ⟨lw_p79, fun _ h => absurd h List.not_mem_nil⟩⟩⟩⟩⟩⟩⟩⟩⟩⟩⟩⟩⟩⟩⟩⟩
theorem lw_p80 : lw_okq (⟨"CallForBrownModel", "beAtFirst", "()V"⟩, 35) := ⟨⟨by decide +kernel, by decide +kernel⟩, List.mem_of_getElem? (i := 1157) (by decide +kernel), List.mem_of_getElem? (i := 1445) (by decide +kernel), List.mem_of_getElem? (i := 1446) (by decide +kernel)⟩
theorem lw_p81 : lw_okq (⟨"CallForBrownModel", "allSits", "()I"⟩, 35) := ⟨⟨by decide +kernel, by decide +kernel⟩, List.mem_of_getElem? (i := 1157) (by decide +kernel), List.mem_of_getElem? (i := 1449) (by decide +kernel), List.mem_of_getElem? (i := 1450) (by decide +kernel)⟩
theorem lw_p82 : lw_okq (⟨"CallForBrownModel", "callIn", "(II)I"⟩, 35) := ⟨⟨by decide +kernel, by decide +kernel⟩, List.mem_of_getElem? (i := 1157) (by decide +kernel), List.mem_of_getElem? (i := 1454) (by decide +kernel), List.mem_of_getElem? (i := 1455) (by decide +kernel)⟩
theorem lw_p83 : lw_okq (⟨"CallForBrownModel", "wouldFind", "(II)I"⟩, 35) := ⟨⟨by decide +kernel, by decide +kernel⟩, List.mem_of_getElem? (i := 1157) (by decide +kernel), List.mem_of_getElem? (i := 1458) (by decide +kernel), List.mem_of_getElem? (i := 1459) (by decide +kernel)⟩
theorem lw_p84 : lw_okq (⟨"CallForBrownModel", "goMinute", "(I)V"⟩, 35) := ⟨⟨by decide +kernel, by decide +kernel⟩, List.mem_of_getElem? (i := 1157) (by decide +kernel), List.mem_of_getElem? (i := 1462) (by decide +kernel), List.mem_of_getElem? (i := 1463) (by decide +kernel)⟩
theorem lw_p85 : lw_okq (⟨"CallForBrownModel", "inHouse", "()I"⟩, 35) := ⟨⟨by decide +kernel, by decide +kernel⟩, List.mem_of_getElem? (i := 1157) (by decide +kernel), List.mem_of_getElem? (i := 1484) (by decide +kernel), List.mem_of_getElem? (i := 1485) (by decide +kernel)⟩
theorem lw_p86 : lw_okq (⟨"CallForBrownModel", "inMillion", "(I)I"⟩, 35) := ⟨⟨by decide +kernel, by decide +kernel⟩, List.mem_of_getElem? (i := 1157) (by decide +kernel), List.mem_of_getElem? (i := 1488) (by decide +kernel), List.mem_of_getElem? (i := 1489) (by decide +kernel)⟩
theorem lw_p87 : lw_okq (⟨"CallForBrownModel", "asksRound", "(IZ)I"⟩, 35) := ⟨⟨by decide +kernel, by decide +kernel⟩, List.mem_of_getElem? (i := 1157) (by decide +kernel), List.mem_of_getElem? (i := 1518) (by decide +kernel), List.mem_of_getElem? (i := 1519) (by decide +kernel)⟩
theorem lw_p88 : lw_okq (⟨"CallForBrownModel", "numberAt", "(II)J"⟩, 35) := ⟨⟨by decide +kernel, by decide +kernel⟩, List.mem_of_getElem? (i := 1157) (by decide +kernel), List.mem_of_getElem? (i := 1525) (by decide +kernel), List.mem_of_getElem? (i := 1526) (by decide +kernel)⟩
theorem lw_p89 : lw_okq (⟨"CallForBrownModel", "goRound", "(III)I"⟩, 35) := ⟨⟨by decide +kernel, by decide +kernel⟩, List.mem_of_getElem? (i := 1157) (by decide +kernel), List.mem_of_getElem? (i := 1529) (by decide +kernel), List.mem_of_getElem? (i := 1530) (by decide +kernel)⟩
theorem lw_p90 : lw_okq (⟨"CallForBrownModel", "roomAt", "(II)I"⟩, 35) := ⟨⟨by decide +kernel, by decide +kernel⟩, List.mem_of_getElem? (i := 1157) (by decide +kernel), List.mem_of_getElem? (i := 1533) (by decide +kernel), List.mem_of_getElem? (i := 1534) (by decide +kernel)⟩
theorem lw_p91 : lw_okq (⟨"CallForBrownModel", "gainOf", "(III)I"⟩, 35) := ⟨⟨by decide +kernel, by decide +kernel⟩, List.mem_of_getElem? (i := 1157) (by decide +kernel), List.mem_of_getElem? (i := 1551) (by decide +kernel), List.mem_of_getElem? (i := 1552) (by decide +kernel)⟩
theorem lw_p92 : lw_okq (⟨"CallForBrownModel", "worthOf", "(I)I"⟩, 35) := ⟨⟨by decide +kernel, by decide +kernel⟩, List.mem_of_getElem? (i := 1157) (by decide +kernel), List.mem_of_getElem? (i := 1555) (by decide +kernel), List.mem_of_getElem? (i := 1556) (by decide +kernel)⟩
theorem lw_p93 : lw_okq (⟨"CallForBrownModel", "canWalk", "(II)Z"⟩, 35) := ⟨⟨by decide +kernel, by decide +kernel⟩, List.mem_of_getElem? (i := 1157) (by decide +kernel), List.mem_of_getElem? (i := 1571) (by decide +kernel), List.mem_of_getElem? (i := 1572) (by decide +kernel)⟩
theorem lw_p94 : lw_okq (⟨"CallForBrownModel", "goesTo", "(II)Z"⟩, 35) := ⟨⟨by decide +kernel, by decide +kernel⟩, List.mem_of_getElem? (i := 1157) (by decide +kernel), List.mem_of_getElem? (i := 1575) (by decide +kernel), List.mem_of_getElem? (i := 1576) (by decide +kernel)⟩
theorem lw_p95 : lw_okq (⟨"CallForBrownModel", "bestFrom", "(II)I"⟩, 35) := ⟨⟨by decide +kernel, by decide +kernel⟩, List.mem_of_getElem? (i := 1157) (by decide +kernel), List.mem_of_getElem? (i := 1592) (by decide +kernel), List.mem_of_getElem? (i := 1593) (by decide +kernel)⟩
def lw_privs_6 : List (MethodName × Nat) := [(⟨"CallForBrownModel", "beAtFirst", "()V"⟩, 35), (⟨"CallForBrownModel", "allSits", "()I"⟩, 35), (⟨"CallForBrownModel", "callIn", "(II)I"⟩, 35), (⟨"CallForBrownModel", "wouldFind", "(II)I"⟩, 35), (⟨"CallForBrownModel", "goMinute", "(I)V"⟩, 35), (⟨"CallForBrownModel", "inHouse", "()I"⟩, 35), (⟨"CallForBrownModel", "inMillion", "(I)I"⟩, 35), (⟨"CallForBrownModel", "asksRound", "(IZ)I"⟩, 35), (⟨"CallForBrownModel", "numberAt", "(II)J"⟩, 35), (⟨"CallForBrownModel", "goRound", "(III)I"⟩, 35), (⟨"CallForBrownModel", "roomAt", "(II)I"⟩, 35), (⟨"CallForBrownModel", "gainOf", "(III)I"⟩, 35), (⟨"CallForBrownModel", "worthOf", "(I)I"⟩, 35), (⟨"CallForBrownModel", "canWalk", "(II)Z"⟩, 35), (⟨"CallForBrownModel", "goesTo", "(II)Z"⟩, 35), (⟨"CallForBrownModel", "bestFrom", "(II)I"⟩, 35)]
theorem lw_r6 : ∀ q ∈ lw_privs_6, lw_okq q := List.forall_mem_cons.mpr ⟨lw_p80, List.forall_mem_cons.mpr ⟨lw_p81, List.forall_mem_cons.mpr ⟨lw_p82, List.forall_mem_cons.mpr ⟨lw_p83, List.forall_mem_cons.mpr ⟨lw_p84, List.forall_mem_cons.mpr ⟨lw_p85, List.forall_mem_cons.mpr ⟨lw_p86, List.forall_mem_cons.mpr ⟨lw_p87, List.forall_mem_cons.mpr ⟨lw_p88, List.forall_mem_cons.mpr ⟨lw_p89, List.forall_mem_cons.mpr ⟨lw_p90, List.forall_mem_cons.mpr ⟨lw_p91, List.forall_mem_cons.mpr ⟨lw_p92, List.forall_mem_cons.mpr ⟨lw_p93, List.forall_mem_cons.mpr ⟨lw_p94, List.forall_mem_cons.mpr ⟨lw_p95, fun _ h => absurd h List.not_mem_nil⟩⟩⟩⟩⟩⟩⟩⟩⟩⟩⟩⟩⟩⟩⟩⟩
theorem lw_p96 : lw_okq (⟨"CallForBrownModel", "isWay", "(II)Z"⟩, 35) := ⟨⟨by decide +kernel, by decide +kernel⟩, List.mem_of_getElem? (i := 1157) (by decide +kernel), List.mem_of_getElem? (i := 1596) (by decide +kernel), List.mem_of_getElem? (i := 1597) (by decide +kernel)⟩
theorem lw_p97 : lw_okq (⟨"CallForBrownModel", "nextWay", "(I)Z"⟩, 35) := ⟨⟨by decide +kernel, by decide +kernel⟩, List.mem_of_getElem? (i := 1157) (by decide +kernel), List.mem_of_getElem? (i := 1600) (by decide +kernel), List.mem_of_getElem? (i := 1601) (by decide +kernel)⟩
theorem lw_p98 : lw_okq (⟨"CallForBrownModel", "wider", "(I)I"⟩, 35) := ⟨⟨by decide +kernel, by decide +kernel⟩, List.mem_of_getElem? (i := 1157) (by decide +kernel), List.mem_of_getElem? (i := 1620) (by decide +kernel), List.mem_of_getElem? (i := 1621) (by decide +kernel)⟩
theorem lw_p99 : lw_okq (⟨"CallForBrownModel", "quietBy", "(I)I"⟩, 35) := ⟨⟨by decide +kernel, by decide +kernel⟩, List.mem_of_getElem? (i := 1157) (by decide +kernel), List.mem_of_getElem? (i := 1636) (by decide +kernel), List.mem_of_getElem? (i := 1637) (by decide +kernel)⟩
theorem lw_p100 : lw_okq (⟨"CallForBrownModel", "allRooms", "()I"⟩, 35) := ⟨⟨by decide +kernel, by decide +kernel⟩, List.mem_of_getElem? (i := 1157) (by decide +kernel), List.mem_of_getElem? (i := 1641) (by decide +kernel), List.mem_of_getElem? (i := 1642) (by decide +kernel)⟩
theorem lw_p101 : lw_okq (⟨"CallForBrownModel", "cardIn", "(II)I"⟩, 35) := ⟨⟨by decide +kernel, by decide +kernel⟩, List.mem_of_getElem? (i := 1157) (by decide +kernel), List.mem_of_getElem? (i := 1653) (by decide +kernel), List.mem_of_getElem? (i := 1654) (by decide +kernel)⟩
theorem lw_p102 : lw_okq (⟨"CallForBrownModel", "chase", "(IIZ)I"⟩, 35) := ⟨⟨by decide +kernel, by decide +kernel⟩, List.mem_of_getElem? (i := 1157) (by decide +kernel), List.mem_of_getElem? (i := 1665) (by decide +kernel), List.mem_of_getElem? (i := 1666) (by decide +kernel)⟩
theorem lw_p103 : lw_okq (⟨"CallForBrownModel", "meet", "(III)V"⟩, 35) := ⟨⟨by decide +kernel, by decide +kernel⟩, List.mem_of_getElem? (i := 1157) (by decide +kernel), List.mem_of_getElem? (i := 1672) (by decide +kernel), List.mem_of_getElem? (i := 1673) (by decide +kernel)⟩
theorem lw_p104 : lw_okq (⟨"CallForBrownModel", "farTo", "(I)I"⟩, 35) := ⟨⟨by decide +kernel, by decide +kernel⟩, List.mem_of_getElem? (i := 1157) (by decide +kernel), List.mem_of_getElem? (i := 1676) (by decide +kernel), List.mem_of_getElem? (i := 1677) (by decide +kernel)⟩
theorem lw_p105 : lw_okq (⟨"CallForBrownModel", "areMen", "(I)Z"⟩, 35) := ⟨⟨by decide +kernel, by decide +kernel⟩, List.mem_of_getElem? (i := 1157) (by decide +kernel), List.mem_of_getElem? (i := 1705) (by decide +kernel), List.mem_of_getElem? (i := 1706) (by decide +kernel)⟩
theorem lw_p106 : lw_okq (⟨"CallForBrownModel", "fillAsked", "()V"⟩, 35) := ⟨⟨by decide +kernel, by decide +kernel⟩, List.mem_of_getElem? (i := 1157) (by decide +kernel), List.mem_of_getElem? (i := 1709) (by decide +kernel), List.mem_of_getElem? (i := 1710) (by decide +kernel)⟩
theorem lw_p107 : lw_okq (⟨"CallForBrownModel", "askedBy", "(II)I"⟩, 35) := ⟨⟨by decide +kernel, by decide +kernel⟩, List.mem_of_getElem? (i := 1157) (by decide +kernel), List.mem_of_getElem? (i := 1713) (by decide +kernel), List.mem_of_getElem? (i := 1714) (by decide +kernel)⟩
theorem lw_p108 : lw_okq (⟨"CallForBrownModel", "saying", "(II)I"⟩, 35) := ⟨⟨by decide +kernel, by decide +kernel⟩, List.mem_of_getElem? (i := 1157) (by decide +kernel), List.mem_of_getElem? (i := 1717) (by decide +kernel), List.mem_of_getElem? (i := 1718) (by decide +kernel)⟩
theorem lw_p109 : lw_okq (⟨"CallForBrownModel", "tellsApart", "(II)Z"⟩, 35) := ⟨⟨by decide +kernel, by decide +kernel⟩, List.mem_of_getElem? (i := 1157) (by decide +kernel), List.mem_of_getElem? (i := 1734) (by decide +kernel), List.mem_of_getElem? (i := 1735) (by decide +kernel)⟩
theorem lw_p110 : lw_okq (⟨"CallForBrownModel", "allRead", "(I)J"⟩, 35) := ⟨⟨by decide +kernel, by decide +kernel⟩, List.mem_of_getElem? (i := 1157) (by decide +kernel), List.mem_of_getElem? (i := 1753) (by decide +kernel), List.mem_of_getElem? (i := 1754) (by decide +kernel)⟩
theorem lw_p111 : lw_okq (⟨"CallForBrownModel", "likelyRead", "(II)J"⟩, 35) := ⟨⟨by decide +kernel, by decide +kernel⟩, List.mem_of_getElem? (i := 1157) (by decide +kernel), List.mem_of_getElem? (i := 1757) (by decide +kernel), List.mem_of_getElem? (i := 1758) (by decide +kernel)⟩
def lw_privs_7 : List (MethodName × Nat) := [(⟨"CallForBrownModel", "isWay", "(II)Z"⟩, 35), (⟨"CallForBrownModel", "nextWay", "(I)Z"⟩, 35), (⟨"CallForBrownModel", "wider", "(I)I"⟩, 35), (⟨"CallForBrownModel", "quietBy", "(I)I"⟩, 35), (⟨"CallForBrownModel", "allRooms", "()I"⟩, 35), (⟨"CallForBrownModel", "cardIn", "(II)I"⟩, 35), (⟨"CallForBrownModel", "chase", "(IIZ)I"⟩, 35), (⟨"CallForBrownModel", "meet", "(III)V"⟩, 35), (⟨"CallForBrownModel", "farTo", "(I)I"⟩, 35), (⟨"CallForBrownModel", "areMen", "(I)Z"⟩, 35), (⟨"CallForBrownModel", "fillAsked", "()V"⟩, 35), (⟨"CallForBrownModel", "askedBy", "(II)I"⟩, 35), (⟨"CallForBrownModel", "saying", "(II)I"⟩, 35), (⟨"CallForBrownModel", "tellsApart", "(II)Z"⟩, 35), (⟨"CallForBrownModel", "allRead", "(I)J"⟩, 35), (⟨"CallForBrownModel", "likelyRead", "(II)J"⟩, 35)]
theorem lw_r7 : ∀ q ∈ lw_privs_7, lw_okq q := List.forall_mem_cons.mpr ⟨lw_p96, List.forall_mem_cons.mpr ⟨lw_p97, List.forall_mem_cons.mpr ⟨lw_p98, List.forall_mem_cons.mpr ⟨lw_p99, List.forall_mem_cons.mpr ⟨lw_p100, List.forall_mem_cons.mpr ⟨lw_p101, List.forall_mem_cons.mpr ⟨lw_p102, List.forall_mem_cons.mpr ⟨lw_p103, List.forall_mem_cons.mpr ⟨lw_p104, List.forall_mem_cons.mpr ⟨lw_p105, List.forall_mem_cons.mpr ⟨lw_p106, List.forall_mem_cons.mpr ⟨lw_p107, List.forall_mem_cons.mpr ⟨lw_p108, List.forall_mem_cons.mpr ⟨lw_p109, List.forall_mem_cons.mpr ⟨lw_p110, List.forall_mem_cons.mpr ⟨lw_p111, fun _ h => absurd h List.not_mem_nil⟩⟩⟩⟩⟩⟩⟩⟩⟩⟩⟩⟩⟩⟩⟩⟩
theorem lw_p112 : lw_okq (⟨"CallForBrownModel", "slateOf", "(II)J"⟩, 35) := ⟨⟨by decide +kernel, by decide +kernel⟩, List.mem_of_getElem? (i := 1157) (by decide +kernel), List.mem_of_getElem? (i := 1761) (by decide +kernel), List.mem_of_getElem? (i := 1762) (by decide +kernel)⟩
theorem lw_p113 : lw_okq (⟨"CallForBrownModel", "slateAll", "(I)J"⟩, 35) := ⟨⟨by decide +kernel, by decide +kernel⟩, List.mem_of_getElem? (i := 1157) (by decide +kernel), List.mem_of_getElem? (i := 1765) (by decide +kernel), List.mem_of_getElem? (i := 1766) (by decide +kernel)⟩
theorem lw_p114 : lw_okq (⟨"CallForBrownModel", "asksHabit", "(IZ)I"⟩, 35) := ⟨⟨by decide +kernel, by decide +kernel⟩, List.mem_of_getElem? (i := 1157) (by decide +kernel), List.mem_of_getElem? (i := 1781) (by decide +kernel), List.mem_of_getElem? (i := 1782) (by decide +kernel)⟩
theorem lw_p115 : lw_okq (⟨"CallForBrownModel", "oftenest", "(II)I"⟩, 35) := ⟨⟨by decide +kernel, by decide +kernel⟩, List.mem_of_getElem? (i := 1157) (by decide +kernel), List.mem_of_getElem? (i := 1785) (by decide +kernel), List.mem_of_getElem? (i := 1786) (by decide +kernel)⟩
theorem lw_p116 : lw_okq (⟨"CallForBrownModel", "goEvening", "(JI)V"⟩, 35) := ⟨⟨by decide +kernel, by decide +kernel⟩, List.mem_of_getElem? (i := 1157) (by decide +kernel), List.mem_of_getElem? (i := 1805) (by decide +kernel), List.mem_of_getElem? (i := 1806) (by decide +kernel)⟩
theorem lw_p117 : lw_okq (⟨"CallForBrownModel", "firstRoom", "()I"⟩, 35) := ⟨⟨by decide +kernel, by decide +kernel⟩, List.mem_of_getElem? (i := 1157) (by decide +kernel), List.mem_of_getElem? (i := 1809) (by decide +kernel), List.mem_of_getElem? (i := 1810) (by decide +kernel)⟩
theorem lw_p118 : lw_okq (⟨"CallForBrownModel", "draw", "(I)I"⟩, 35) := ⟨⟨by decide +kernel, by decide +kernel⟩, List.mem_of_getElem? (i := 1157) (by decide +kernel), List.mem_of_getElem? (i := 1813) (by decide +kernel), List.mem_of_getElem? (i := 1814) (by decide +kernel)⟩
theorem lw_p119 : lw_okq (⟨"CallForBrownModel", "doorFrom", "(II)I"⟩, 35) := ⟨⟨by decide +kernel, by decide +kernel⟩, List.mem_of_getElem? (i := 1157) (by decide +kernel), List.mem_of_getElem? (i := 1821) (by decide +kernel), List.mem_of_getElem? (i := 1822) (by decide +kernel)⟩
theorem lw_p120 : lw_okq (⟨"CallForBrownModel", "door", "(III)V"⟩, 35) := ⟨⟨by decide +kernel, by decide +kernel⟩, List.mem_of_getElem? (i := 1157) (by decide +kernel), List.mem_of_getElem? (i := 1841) (by decide +kernel), List.mem_of_getElem? (i := 1842) (by decide +kernel)⟩
def lw_privs_8 : List (MethodName × Nat) := [(⟨"CallForBrownModel", "slateOf", "(II)J"⟩, 35), (⟨"CallForBrownModel", "slateAll", "(I)J"⟩, 35), (⟨"CallForBrownModel", "asksHabit", "(IZ)I"⟩, 35), (⟨"CallForBrownModel", "oftenest", "(II)I"⟩, 35), (⟨"CallForBrownModel", "goEvening", "(JI)V"⟩, 35), (⟨"CallForBrownModel", "firstRoom", "()I"⟩, 35), (⟨"CallForBrownModel", "draw", "(I)I"⟩, 35), (⟨"CallForBrownModel", "doorFrom", "(II)I"⟩, 35), (⟨"CallForBrownModel", "door", "(III)V"⟩, 35)]
theorem lw_r8 : ∀ q ∈ lw_privs_8, lw_okq q := List.forall_mem_cons.mpr ⟨lw_p112, List.forall_mem_cons.mpr ⟨lw_p113, List.forall_mem_cons.mpr ⟨lw_p114, List.forall_mem_cons.mpr ⟨lw_p115, List.forall_mem_cons.mpr ⟨lw_p116, List.forall_mem_cons.mpr ⟨lw_p117, List.forall_mem_cons.mpr ⟨lw_p118, List.forall_mem_cons.mpr ⟨lw_p119, List.forall_mem_cons.mpr ⟨lw_p120, fun _ h => absurd h List.not_mem_nil⟩⟩⟩⟩⟩⟩⟩⟩⟩
def lw_privs : List (MethodName × Nat) := lw_privs_1 ++ (lw_privs_2 ++ (lw_privs_3 ++ (lw_privs_4 ++ (lw_privs_5 ++ (lw_privs_6 ++ (lw_privs_7 ++ (lw_privs_8)))))))
def lw_tbl : List Cond := k2_sels lw_privs ++ tables_1
theorem lw_privs_ok : ∀ q ∈ lw_privs, lw_okq q := by
  show ∀ q ∈ lw_privs_1 ++ (lw_privs_2 ++ (lw_privs_3 ++ (lw_privs_4 ++ (lw_privs_5 ++ (lw_privs_6 ++ (lw_privs_7 ++ (lw_privs_8))))))), lw_okq q
  exact List.forall_mem_append.mpr ⟨lw_r1, List.forall_mem_append.mpr ⟨lw_r2, List.forall_mem_append.mpr ⟨lw_r3, List.forall_mem_append.mpr ⟨lw_r4, List.forall_mem_append.mpr ⟨lw_r5, List.forall_mem_append.mpr ⟨lw_r6, List.forall_mem_append.mpr ⟨lw_r7, lw_r8⟩⟩⟩⟩⟩⟩⟩

def RX0 : String := "CallForBrown$Boy"
def TX0 : u_T := fun k => match k with
  | 0 => ("CallForBrown$Boy", "levels", "[LCallForBrown$Parts;", true)
  | 1 => ("CallForBrown$Boy", "ways", "[[I", true)
  | _ => ("CallForBrown$Boy", "firsts", "[I", true)
def tyX0 : Nat → FieldType := fun k => match k with
  | 0 => .array (.object "CallForBrown$Parts")
  | 1 => .array (.array .int)
  | _ => .array .int
abbrev wsX00 : List Cond := u_ws RX0 TX0 3
theorem nmX0 : ∀ a, a < 3 → ∀ b, b < 3 → a ≠ b → (TX0 a).2.1 ≠ (TX0 b).2.1 := by decide +kernel
theorem tyX0_ok : ∀ k, k < 3 → parseFieldDescriptor (TX0 k).2.2.1 = some (tyX0 k) := by decide +kernel
abbrev cX0_init : ByteArray := prog_2_method_1_code
def yX0_init : MethodName := ⟨RX0, "<init>", "()V"⟩
abbrev cX0_mostFrom : ByteArray := prog_2_method_2_code
def yX0_mostFrom : MethodName := ⟨RX0, "mostFrom", "(LCallForBrown$House;LCallForBrown$Parts;II)I"⟩
abbrev cX0_stepAt : ByteArray := prog_2_method_3_code
def yX0_stepAt : MethodName := ⟨RX0, "stepAt", "(I)I"⟩
abbrev cX0_bestStart : ByteArray := prog_2_method_4_code
def yX0_bestStart : MethodName := ⟨RX0, "bestStart", "(LCallForBrown$House;LCallForBrown$Parts;I)I"⟩
abbrev cX0_seek : ByteArray := prog_2_method_5_code
def yX0_seek : MethodName := ⟨RX0, "seek", "(LCallForBrown$House;III)I"⟩
abbrev cX0_calling : ByteArray := prog_2_method_6_code
def yX0_calling : MethodName := ⟨RX0, "calling", "(LCallForBrown$House;III)I"⟩
abbrev cX0_keepWay : ByteArray := prog_2_method_7_code
def yX0_keepWay : MethodName := ⟨RX0, "keepWay", "(II)V"⟩
def RX1 : String := "CallForBrown$Chase"
def TX1 : u_T := fun k => match k with
  | 0 => ("CallForBrown$Chase", "seen", "[J", true)
  | 1 => ("CallForBrown$Chase", "queue", "[I", true)
  | 2 => ("CallForBrown$Chase", "before", "[I", true)
  | 3 => ("CallForBrown$Chase", "leaders", "[I", true)
  | 4 => ("CallForBrown$Chase", "known", "[I", true)
  | 5 => ("CallForBrown$Chase", "tail", "I", false)
  | _ => ("CallForBrown$Chase", "goal", "I", false)
def tyX1 : Nat → FieldType := fun k => match k with
  | 0 => .array .long
  | 1 => .array .int
  | 2 => .array .int
  | 3 => .array .int
  | 4 => .array .int
  | 5 => .int
  | _ => .int
abbrev wsX10 : List Cond := u_ws RX1 TX1 7
theorem nmX1 : ∀ a, a < 7 → ∀ b, b < 7 → a ≠ b → (TX1 a).2.1 ≠ (TX1 b).2.1 := by decide +kernel
theorem tyX1_ok : ∀ k, k < 7 → parseFieldDescriptor (TX1 k).2.2.1 = some (tyX1 k) := by decide +kernel
abbrev cX1_init : ByteArray := prog_3_method_1_code
def yX1_init : MethodName := ⟨RX1, "<init>", "()V"⟩
abbrev cX1_hunt : ByteArray := prog_3_method_2_code
def yX1_hunt : MethodName := ⟨RX1, "hunt", "(LCallForBrown$House;IIZ)Z"⟩
abbrev cX1_minutesToClear : ByteArray := prog_3_method_3_code
def yX1_minutesToClear : MethodName := ⟨RX1, "minutesToClear", "()I"⟩
abbrev cX1_placeOf : ByteArray := prog_3_method_4_code
def yX1_placeOf : MethodName := ⟨RX1, "placeOf", "(II)I"⟩
abbrev cX1_pairsThatCan : ByteArray := prog_3_method_5_code
def yX1_pairsThatCan : MethodName := ⟨RX1, "pairsThatCan", "(LCallForBrown$House;)I"⟩
abbrev cX1_findLeaders : ByteArray := prog_3_method_6_code
def yX1_findLeaders : MethodName := ⟨RX1, "findLeaders", "(LCallForBrown$House;)V"⟩
abbrev cX1_goOn : ByteArray := prog_3_method_7_code
def yX1_goOn : MethodName := ⟨RX1, "goOn", "(LCallForBrown$House;IZ)V"⟩
abbrev cX1_reach : ByteArray := prog_3_method_8_code
def yX1_reach : MethodName := ⟨RX1, "reach", "(IIII)V"⟩
def RX2 : String := "CallForBrown$Evening"
def TX2 : u_T := fun k => match k with
  | 0 => ("CallForBrown$Evening", "x", "J", false)
  | 1 => ("CallForBrown$Evening", "foundAt", "I", false)
  | _ => ("CallForBrown$Evening", "place", "I", false)
def tyX2 : Nat → FieldType := fun k => match k with
  | 0 => .long
  | 1 => .int
  | _ => .int
abbrev wsX20 : List Cond := u_ws RX2 TX2 3
theorem nmX2 : ∀ a, a < 3 → ∀ b, b < 3 → a ≠ b → (TX2 a).2.1 ≠ (TX2 b).2.1 := by decide +kernel
theorem tyX2_ok : ∀ k, k < 3 → parseFieldDescriptor (TX2 k).2.2.1 = some (tyX2 k) := by decide +kernel
abbrev cX2_init : ByteArray := prog_4_method_1_code
def yX2_init : MethodName := ⟨RX2, "<init>", "()V"⟩
abbrev cX2_draw : ByteArray := prog_4_method_2_code
def yX2_draw : MethodName := ⟨RX2, "draw", "(LCallForBrown$House;LCallForBrown$Row;J)V"⟩
abbrev cX2_takeSeat : ByteArray := prog_4_method_3_code
def yX2_takeSeat : MethodName := ⟨RX2, "takeSeat", "(LCallForBrown$House;)I"⟩
abbrev cX2_move : ByteArray := prog_4_method_4_code
def yX2_move : MethodName := ⟨RX2, "move", "(LCallForBrown$House;)V"⟩
abbrev cX2_next : ByteArray := prog_4_method_5_code
def yX2_next : MethodName := ⟨RX2, "next", "(I)I"⟩
def RX3 : String := "CallForBrown$House"
def TX3 : u_T := fun k => match k with
  | 0 => ("CallForBrown$House", "lines", "I", false)
  | 1 => ("CallForBrown$House", "moves", "I", false)
  | 2 => ("CallForBrown$House", "here", "I", false)
  | 3 => ("CallForBrown$House", "worth", "I", false)
  | 4 => ("CallForBrown$House", "price", "I", false)
  | 5 => ("CallForBrown$House", "rooms", "I", false)
  | 6 => ("CallForBrown$House", "men", "I", false)
  | 7 => ("CallForBrown$House", "people", "[I", true)
  | 8 => ("CallForBrown$House", "hears", "[I", true)
  | 9 => ("CallForBrown$House", "sits", "[I", true)
  | 10 => ("CallForBrown$House", "doors", "[I", true)
  | 11 => ("CallForBrown$House", "weighs", "[I", true)
  | 12 => ("CallForBrown$House", "says", "[I", true)
  | _ => ("CallForBrown$House", "slate", "[I", true)
def tyX3 : Nat → FieldType := fun k => match k with
  | 0 => .int
  | 1 => .int
  | 2 => .int
  | 3 => .int
  | 4 => .int
  | 5 => .int
  | 6 => .int
  | 7 => .array .int
  | 8 => .array .int
  | 9 => .array .int
  | 10 => .array .int
  | 11 => .array .int
  | 12 => .array .int
  | _ => .array .int
abbrev wsX30 : List Cond := u_ws RX3 TX3 14
theorem nmX3 : ∀ a, a < 14 → ∀ b, b < 14 → a ≠ b → (TX3 a).2.1 ≠ (TX3 b).2.1 := by decide +kernel
theorem tyX3_ok : ∀ k, k < 14 → parseFieldDescriptor (TX3 k).2.2.1 = some (tyX3 k) := by decide +kernel
abbrev cX3_init : ByteArray := prog_5_method_1_code
def yX3_init : MethodName := ⟨RX3, "<init>", "()V"⟩
abbrev cX3_limit : ByteArray := prog_5_method_2_code
def yX3_limit : MethodName := ⟨RX3, "limit", "(I)I"⟩
abbrev cX3_clear : ByteArray := prog_5_method_3_code
def yX3_clear : MethodName := ⟨RX3, "clear", "()V"⟩
abbrev cX3_copyFrom : ByteArray := prog_5_method_4_code
def yX3_copyFrom : MethodName := ⟨RX3, "copyFrom", "(LCallForBrown$House;)V"⟩
abbrev cX3_column : ByteArray := prog_5_method_5_code
def yX3_column : MethodName := ⟨RX3, "column", "(I)[I"⟩
abbrev cX3_addRoom : ByteArray := prog_5_method_6_code
def yX3_addRoom : MethodName := ⟨RX3, "addRoom", "(III)V"⟩
abbrev cX3_addMan : ByteArray := prog_5_method_7_code
def yX3_addMan : MethodName := ⟨RX3, "addMan", "(II)V"⟩
abbrev cX3_tellSlate : ByteArray := prog_5_method_8_code
def yX3_tellSlate : MethodName := ⟨RX3, "tellSlate", "(III)V"⟩
abbrev cX3_openDoor : ByteArray := prog_5_method_9_code
def yX3_openDoor : MethodName := ⟨RX3, "openDoor", "(II)V"⟩
abbrev cX3_closeDoor : ByteArray := prog_5_method_10_code
def yX3_closeDoor : MethodName := ⟨RX3, "closeDoor", "(II)V"⟩
abbrev cX3_hasRoom : ByteArray := prog_5_method_11_code
def yX3_hasRoom : MethodName := ⟨RX3, "hasRoom", "(I)Z"⟩
abbrev cX3_isDoor : ByteArray := prog_5_method_12_code
def yX3_isDoor : MethodName := ⟨RX3, "isDoor", "(II)Z"⟩
abbrev cX3_isStep : ByteArray := prog_5_method_13_code
def yX3_isStep : MethodName := ⟨RX3, "isStep", "(II)Z"⟩
abbrev cX3_countDoors : ByteArray := prog_5_method_14_code
def yX3_countDoors : MethodName := ⟨RX3, "countDoors", "()I"⟩
abbrev cX3_allRooms : ByteArray := prog_5_method_15_code
def yX3_allRooms : MethodName := ⟨RX3, "allRooms", "()I"⟩
abbrev cX3_spread : ByteArray := prog_5_method_16_code
def yX3_spread : MethodName := ⟨RX3, "spread", "(I)I"⟩
abbrev cX3_heard : ByteArray := prog_5_method_17_code
def yX3_heard : MethodName := ⟨RX3, "heard", "(II)I"⟩
abbrev cX3_allSits : ByteArray := prog_5_method_18_code
def yX3_allSits : MethodName := ⟨RX3, "allSits", "()I"⟩
abbrev cX3_whoSayYes : ByteArray := prog_5_method_19_code
def yX3_whoSayYes : MethodName := ⟨RX3, "whoSayYes", "(II)I"⟩
def RX4 : String := "CallForBrown$Men"
def TX4 : u_T := fun k => match k with
  | _ => ("CallForBrown$Men", "fewest", "[I", true)
def tyX4 : Nat → FieldType := fun k => match k with
  | _ => .array .int
abbrev wsX40 : List Cond := u_ws RX4 TX4 1
theorem nmX4 : ∀ a, a < 1 → ∀ b, b < 1 → a ≠ b → (TX4 a).2.1 ≠ (TX4 b).2.1 := by decide +kernel
theorem tyX4_ok : ∀ k, k < 1 → parseFieldDescriptor (TX4 k).2.2.1 = some (tyX4 k) := by decide +kernel
abbrev cX4_init : ByteArray := prog_6_method_1_code
def yX4_init : MethodName := ⟨RX4, "<init>", "()V"⟩
abbrev cX4_fewestFor : ByteArray := prog_6_method_2_code
def yX4_fewestFor : MethodName := ⟨RX4, "fewestFor", "(LCallForBrown$House;I)I"⟩
abbrev cX4_firstFor : ByteArray := prog_6_method_3_code
def yX4_firstFor : MethodName := ⟨RX4, "firstFor", "(LCallForBrown$House;I)I"⟩
abbrev cX4_fewestOf : ByteArray := prog_6_method_4_code
def yX4_fewestOf : MethodName := ⟨RX4, "fewestOf", "(LCallForBrown$House;I)I"⟩
abbrev cX4_askedFirst : ByteArray := prog_6_method_5_code
def yX4_askedFirst : MethodName := ⟨RX4, "askedFirst", "(LCallForBrown$House;II)I"⟩
abbrev cX4_listFor : ByteArray := prog_6_method_6_code
def yX4_listFor : MethodName := ⟨RX4, "listFor", "(LCallForBrown$House;I)I"⟩
abbrev cX4_areApart : ByteArray := prog_6_method_7_code
def yX4_areApart : MethodName := ⟨RX4, "areApart", "(LCallForBrown$House;II)Z"⟩
abbrev cX4_share : ByteArray := prog_6_method_8_code
def yX4_share : MethodName := ⟨RX4, "share", "(LCallForBrown$House;II)J"⟩
abbrev cX4_allRead : ByteArray := prog_6_method_9_code
def yX4_allRead : MethodName := ⟨RX4, "allRead", "(LCallForBrown$House;I)J"⟩
abbrev cX4_hasAs : ByteArray := prog_6_method_10_code
def yX4_hasAs : MethodName := ⟨RX4, "hasAs", "(LCallForBrown$House;II)I"⟩
abbrev cX4_hasInAll : ByteArray := prog_6_method_11_code
def yX4_hasInAll : MethodName := ⟨RX4, "hasInAll", "(LCallForBrown$House;I)I"⟩
abbrev cX4_slateSum : ByteArray := prog_6_method_12_code
def yX4_slateSum : MethodName := ⟨RX4, "slateSum", "(LCallForBrown$House;I)I"⟩
abbrev cX4_lowest : ByteArray := prog_6_method_13_code
def yX4_lowest : MethodName := ⟨RX4, "lowest", "(JJI)J"⟩
abbrev cX4_greatestDivisor : ByteArray := prog_6_method_14_code
def yX4_greatestDivisor : MethodName := ⟨RX4, "greatestDivisor", "(JJ)J"⟩
def RX5 : String := "CallForBrown$Parts"
def TX5 : u_T := fun k => match k with
  | 0 => ("CallForBrown$Parts", "in", "[I", true)
  | 1 => ("CallForBrown$Parts", "comes", "[I", true)
  | 2 => ("CallForBrown$Parts", "out", "I", false)
  | _ => ("CallForBrown$Parts", "found", "I", false)
def tyX5 : Nat → FieldType := fun k => match k with
  | 0 => .array .int
  | 1 => .array .int
  | 2 => .int
  | _ => .int
abbrev wsX50 : List Cond := u_ws RX5 TX5 4
theorem nmX5 : ∀ a, a < 4 → ∀ b, b < 4 → a ≠ b → (TX5 a).2.1 ≠ (TX5 b).2.1 := by decide +kernel
theorem tyX5_ok : ∀ k, k < 4 → parseFieldDescriptor (TX5 k).2.2.1 = some (tyX5 k) := by decide +kernel
abbrev cX5_init : ByteArray := prog_7_method_1_code
def yX5_init : MethodName := ⟨RX5, "<init>", "()V"⟩
abbrev cX5_begin : ByteArray := prog_7_method_2_code
def yX5_begin : MethodName := ⟨RX5, "begin", "(LCallForBrown$House;)V"⟩
abbrev cX5_copyFrom : ByteArray := prog_7_method_3_code
def yX5_copyFrom : MethodName := ⟨RX5, "copyFrom", "(LCallForBrown$Parts;)V"⟩
abbrev cX5_of : ByteArray := prog_7_method_4_code
def yX5_of : MethodName := ⟨RX5, "of", "(I)I"⟩
abbrev cX5_chanceOf : ByteArray := prog_7_method_5_code
def yX5_chanceOf : MethodName := ⟨RX5, "chanceOf", "(I)I"⟩
abbrev cX5_chanceHere : ByteArray := prog_7_method_6_code
def yX5_chanceHere : MethodName := ⟨RX5, "chanceHere", "()I"⟩
abbrev cX5_audible : ByteArray := prog_7_method_7_code
def yX5_audible : MethodName := ⟨RX5, "audible", "(LCallForBrown$House;II)I"⟩
abbrev cX5_live : ByteArray := prog_7_method_8_code
def yX5_live : MethodName := ⟨RX5, "live", "(LCallForBrown$House;II)I"⟩
abbrev cX5_pass : ByteArray := prog_7_method_9_code
def yX5_pass : MethodName := ⟨RX5, "pass", "(LCallForBrown$House;I)Z"⟩
abbrev cX5_leave : ByteArray := prog_7_method_10_code
def yX5_leave : MethodName := ⟨RX5, "leave", "(LCallForBrown$House;I)V"⟩
def RX6 : String := "CallForBrown$Reader"
def TX6 : u_T := fun k => match k with
  | 0 => ("CallForBrown$Reader", "tape", "LCallForBrown$Tape;", true)
  | 1 => ("CallForBrown$Reader", "next", "I", false)
  | 2 => ("CallForBrown$Reader", "kind", "I", false)
  | 3 => ("CallForBrown$Reader", "place", "I", false)
  | 4 => ("CallForBrown$Reader", "value", "I", false)
  | 5 => ("CallForBrown$Reader", "fault", "I", false)
  | _ => ("CallForBrown$Reader", "faultPlace", "I", false)
def tyX6 : Nat → FieldType := fun k => match k with
  | 0 => .object "CallForBrown$Tape"
  | 1 => .int
  | 2 => .int
  | 3 => .int
  | 4 => .int
  | 5 => .int
  | _ => .int
abbrev wsX60 : List Cond := u_ws RX6 TX6 7
theorem nmX6 : ∀ a, a < 7 → ∀ b, b < 7 → a ≠ b → (TX6 a).2.1 ≠ (TX6 b).2.1 := by decide +kernel
theorem tyX6_ok : ∀ k, k < 7 → parseFieldDescriptor (TX6 k).2.2.1 = some (tyX6 k) := by decide +kernel
abbrev cX6_init : ByteArray := prog_8_method_1_code
def yX6_init : MethodName := ⟨RX6, "<init>", "()V"⟩
abbrev cX6_readHouse : ByteArray := prog_8_method_2_code
def yX6_readHouse : MethodName := ⟨RX6, "readHouse", "(LCallForBrown$House;)Z"⟩
abbrev cX6_readLine : ByteArray := prog_8_method_3_code
def yX6_readLine : MethodName := ⟨RX6, "readLine", "(LCallForBrown$House;)Z"⟩
abbrev cX6_readFirst : ByteArray := prog_8_method_4_code
def yX6_readFirst : MethodName := ⟨RX6, "readFirst", "(LCallForBrown$House;)Z"⟩
abbrev cX6_readRoom : ByteArray := prog_8_method_5_code
def yX6_readRoom : MethodName := ⟨RX6, "readRoom", "(LCallForBrown$House;)Z"⟩
abbrev cX6_readDoor : ByteArray := prog_8_method_6_code
def yX6_readDoor : MethodName := ⟨RX6, "readDoor", "(LCallForBrown$House;)Z"⟩
abbrev cX6_readMan : ByteArray := prog_8_method_7_code
def yX6_readMan : MethodName := ⟨RX6, "readMan", "(LCallForBrown$House;)Z"⟩
abbrev cX6_takeQuestions : ByteArray := prog_8_method_8_code
def yX6_takeQuestions : MethodName := ⟨RX6, "takeQuestions", "()I"⟩
abbrev cX6_readSlate : ByteArray := prog_8_method_9_code
def yX6_readSlate : MethodName := ⟨RX6, "readSlate", "(LCallForBrown$House;)Z"⟩
abbrev cX6_takeNamed : ByteArray := prog_8_method_10_code
def yX6_takeNamed : MethodName := ⟨RX6, "takeNamed", "(Ljava/lang/String;II)I"⟩
abbrev cX6_takeNumber : ByteArray := prog_8_method_11_code
def yX6_takeNumber : MethodName := ⟨RX6, "takeNumber", "(III)I"⟩
abbrev cX6_takeSign : ByteArray := prog_8_method_12_code
def yX6_takeSign : MethodName := ⟨RX6, "takeSign", "()Z"⟩
abbrev cX6_fail : ByteArray := prog_8_method_13_code
def yX6_fail : MethodName := ⟨RX6, "fail", "(I)Z"⟩
abbrev cX6_isWord : ByteArray := prog_8_method_14_code
def yX6_isWord : MethodName := ⟨RX6, "isWord", "(Ljava/lang/String;)Z"⟩
abbrev cX6_advance : ByteArray := prog_8_method_15_code
def yX6_advance : MethodName := ⟨RX6, "advance", "()V"⟩
abbrev cX6_isBlank : ByteArray := prog_8_method_16_code
def yX6_isBlank : MethodName := ⟨RX6, "isBlank", "(I)Z"⟩
abbrev cX6_kindOf : ByteArray := prog_8_method_17_code
def yX6_kindOf : MethodName := ⟨RX6, "kindOf", "(I)I"⟩
def RX7 : String := "CallForBrown$Row"
def TX7 : u_T := fun k => match k with
  | 0 => ("CallForBrown$Row", "numbers", "[J", true)
  | 1 => ("CallForBrown$Row", "made", "Z", false)
  | 2 => ("CallForBrown$Row", "width", "I", false)
  | _ => ("CallForBrown$Row", "size", "I", false)
def tyX7 : Nat → FieldType := fun k => match k with
  | 0 => .array .long
  | 1 => .boolean
  | 2 => .int
  | _ => .int
abbrev wsX70 : List Cond := u_ws RX7 TX7 4
theorem nmX7 : ∀ a, a < 4 → ∀ b, b < 4 → a ≠ b → (TX7 a).2.1 ≠ (TX7 b).2.1 := by decide +kernel
theorem tyX7_ok : ∀ k, k < 4 → parseFieldDescriptor (TX7 k).2.2.1 = some (tyX7 k) := by decide +kernel
abbrev cX7_init : ByteArray := prog_9_method_1_code
def yX7_init : MethodName := ⟨RX7, "<init>", "()V"⟩
abbrev cX7_make : ByteArray := prog_9_method_2_code
def yX7_make : MethodName := ⟨RX7, "make", "(II)V"⟩
abbrev cX7_cut : ByteArray := prog_9_method_3_code
def yX7_cut : MethodName := ⟨RX7, "cut", "(J)J"⟩
abbrev cX7_holds : ByteArray := prog_9_method_4_code
def yX7_holds : MethodName := ⟨RX7, "holds", "(II)Z"⟩
abbrev cX7_isWithin : ByteArray := prog_9_method_5_code
def yX7_isWithin : MethodName := ⟨RX7, "isWithin", "(II)Z"⟩
abbrev cX7_roomAt : ByteArray := prog_9_method_6_code
def yX7_roomAt : MethodName := ⟨RX7, "roomAt", "(I)I"⟩
abbrev cX7_callCount : ByteArray := prog_9_method_7_code
def yX7_callCount : MethodName := ⟨RX7, "callCount", "()I"⟩
abbrev cX7_countOf : ByteArray := prog_9_method_8_code
def yX7_countOf : MethodName := ⟨RX7, "countOf", "(II)I"⟩
abbrev cX7_comesAgain : ByteArray := prog_9_method_9_code
def yX7_comesAgain : MethodName := ⟨RX7, "comesAgain", "(I)Z"⟩
def RX8 : String := "CallForBrown$State"
def TX8 : u_T := fun k => match k with
  | 0 => ("CallForBrown$State", "house", "LCallForBrown$House;", true)
  | 1 => ("CallForBrown$State", "calls", "[I", true)
  | 2 => ("CallForBrown$State", "minutes", "I", false)
  | _ => ("CallForBrown$State", "kept", "Z", false)
def tyX8 : Nat → FieldType := fun k => match k with
  | 0 => .object "CallForBrown$House"
  | 1 => .array .int
  | 2 => .int
  | _ => .boolean
abbrev wsX80 : List Cond := u_ws RX8 TX8 4
theorem nmX8 : ∀ a, a < 4 → ∀ b, b < 4 → a ≠ b → (TX8 a).2.1 ≠ (TX8 b).2.1 := by decide +kernel
theorem tyX8_ok : ∀ k, k < 4 → parseFieldDescriptor (TX8 k).2.2.1 = some (tyX8 k) := by decide +kernel
abbrev cX8_init : ByteArray := prog_10_method_1_code
def yX8_init : MethodName := ⟨RX8, "<init>", "()V"⟩
abbrev cX8_copyFrom : ByteArray := prog_10_method_2_code
def yX8_copyFrom : MethodName := ⟨RX8, "copyFrom", "(LCallForBrown$State;)V"⟩
def RX9 : String := "CallForBrown$Tape"
def TX9 : u_T := fun k => match k with
  | 0 => ("CallForBrown$Tape", "bytes", "[B", true)
  | _ => ("CallForBrown$Tape", "size", "I", false)
def tyX9 : Nat → FieldType := fun k => match k with
  | 0 => .array .byte
  | _ => .int
abbrev wsX90 : List Cond := u_ws RX9 TX9 2
theorem nmX9 : ∀ a, a < 2 → ∀ b, b < 2 → a ≠ b → (TX9 a).2.1 ≠ (TX9 b).2.1 := by decide +kernel
theorem tyX9_ok : ∀ k, k < 2 → parseFieldDescriptor (TX9 k).2.2.1 = some (tyX9 k) := by decide +kernel
abbrev cX9_init : ByteArray := prog_11_method_1_code
def yX9_init : MethodName := ⟨RX9, "<init>", "()V"⟩
abbrev cX9_push : ByteArray := prog_11_method_2_code
def yX9_push : MethodName := ⟨RX9, "push", "(I)V"⟩
abbrev cX9_at : ByteArray := prog_11_method_3_code
def yX9_at : MethodName := ⟨RX9, "at", "(I)I"⟩
def RX10 : String := "CallForBrown"
def TX10 : u_T := fun k => match k with
  | 0 => ("CallForBrown", "reader", "LCallForBrown$Reader;", true)
  | 1 => ("CallForBrown", "tape", "LCallForBrown$Tape;", true)
  | 2 => ("CallForBrown", "draft", "LCallForBrown$House;", true)
  | 3 => ("CallForBrown", "state", "LCallForBrown$State;", true)
  | 4 => ("CallForBrown", "images", "[LCallForBrown$State;", true)
  | 5 => ("CallForBrown", "rows", "[LCallForBrown$Row;", true)
  | 6 => ("CallForBrown", "now", "LCallForBrown$Parts;", true)
  | 7 => ("CallForBrown", "work", "LCallForBrown$Parts;", true)
  | 8 => ("CallForBrown", "caller", "LCallForBrown$Boy;", true)
  | 9 => ("CallForBrown", "chase", "LCallForBrown$Chase;", true)
  | 10 => ("CallForBrown", "men", "LCallForBrown$Men;", true)
  | _ => ("CallForBrown", "evening", "LCallForBrown$Evening;", true)
def tyX10 : Nat → FieldType := fun k => match k with
  | 0 => .object "CallForBrown$Reader"
  | 1 => .object "CallForBrown$Tape"
  | 2 => .object "CallForBrown$House"
  | 3 => .object "CallForBrown$State"
  | 4 => .array (.object "CallForBrown$State")
  | 5 => .array (.object "CallForBrown$Row")
  | 6 => .object "CallForBrown$Parts"
  | 7 => .object "CallForBrown$Parts"
  | 8 => .object "CallForBrown$Boy"
  | 9 => .object "CallForBrown$Chase"
  | 10 => .object "CallForBrown$Men"
  | _ => .object "CallForBrown$Evening"
abbrev wsX100 : List Cond := u_ws RX10 TX10 12
theorem nmX10 : ∀ a, a < 12 → ∀ b, b < 12 → a ≠ b → (TX10 a).2.1 ≠ (TX10 b).2.1 := by decide +kernel
theorem tyX10_ok : ∀ k, k < 12 → parseFieldDescriptor (TX10 k).2.2.1 = some (tyX10 k) := by decide +kernel
abbrev cX10_init : ByteArray := prog_1_method_1_code
def yX10_init : MethodName := ⟨RX10, "<init>", "()V"⟩
abbrev cX10_feed : ByteArray := prog_1_method_2_code
def yX10_feed : MethodName := ⟨RX10, "feed", "(IIIII)I"⟩
abbrev cX10_end : ByteArray := prog_1_method_3_code
def yX10_end : MethodName := ⟨RX10, "end", "(I)I"⟩
abbrev cX10_house : ByteArray := prog_1_method_4_code
def yX10_house : MethodName := ⟨RX10, "house", "()I"⟩
abbrev cX10_fault : ByteArray := prog_1_method_5_code
def yX10_fault : MethodName := ⟨RX10, "fault", "(I)I"⟩
abbrev cX10_room : ByteArray := prog_1_method_6_code
def yX10_room : MethodName := ⟨RX10, "room", "(II)I"⟩
abbrev cX10_man : ByteArray := prog_1_method_7_code
def yX10_man : MethodName := ⟨RX10, "man", "(II)I"⟩
abbrev cX10_slate : ByteArray := prog_1_method_8_code
def yX10_slate : MethodName := ⟨RX10, "slate", "(II)I"⟩
abbrev cX10_hears : ByteArray := prog_1_method_9_code
def yX10_hears : MethodName := ⟨RX10, "hears", "(II)I"⟩
abbrev cX10_parts : ByteArray := prog_1_method_10_code
def yX10_parts : MethodName := ⟨RX10, "parts", "(I)I"⟩
abbrev cX10_found : ByteArray := prog_1_method_11_code
def yX10_found : MethodName := ⟨RX10, "found", "()I"⟩
abbrev cX10_likely : ByteArray := prog_1_method_12_code
def yX10_likely : MethodName := ⟨RX10, "likely", "()I"⟩
abbrev cX10_here : ByteArray := prog_1_method_13_code
def yX10_here : MethodName := ⟨RX10, "here", "()I"⟩
abbrev cX10_chance : ByteArray := prog_1_method_14_code
def yX10_chance : MethodName := ⟨RX10, "chance", "(I)I"⟩
abbrev cX10_call : ByteArray := prog_1_method_15_code
def yX10_call : MethodName := ⟨RX10, "call", "(I)I"⟩
abbrev cX10_undo : ByteArray := prog_1_method_16_code
def yX10_undo : MethodName := ⟨RX10, "undo", "()I"⟩
abbrev cX10_anew : ByteArray := prog_1_method_17_code
def yX10_anew : MethodName := ⟨RX10, "anew", "()I"⟩
abbrev cX10_later : ByteArray := prog_1_method_18_code
def yX10_later : MethodName := ⟨RX10, "later", "(II)I"⟩
abbrev cX10_round : ByteArray := prog_1_method_19_code
def yX10_round : MethodName := ⟨RX10, "round", "(I)I"⟩
abbrev cX10_behind : ByteArray := prog_1_method_20_code
def yX10_behind : MethodName := ⟨RX10, "behind", "(II)I"⟩
abbrev cX10_disturbs : ByteArray := prog_1_method_21_code
def yX10_disturbs : MethodName := ⟨RX10, "disturbs", "(I)I"⟩
abbrev cX10_gain : ByteArray := prog_1_method_22_code
def yX10_gain : MethodName := ⟨RX10, "gain", "(I)I"⟩
abbrev cX10_stop : ByteArray := prog_1_method_23_code
def yX10_stop : MethodName := ⟨RX10, "stop", "(I)I"⟩
abbrev cX10_doubt : ByteArray := prog_1_method_24_code
def yX10_doubt : MethodName := ⟨RX10, "doubt", "(II)I"⟩
abbrev cX10_walks : ByteArray := prog_1_method_25_code
def yX10_walks : MethodName := ⟨RX10, "walks", "(II)I"⟩
abbrev cX10_penny : ByteArray := prog_1_method_26_code
def yX10_penny : MethodName := ⟨RX10, "penny", "(I)I"⟩
abbrev cX10_best : ByteArray := prog_1_method_27_code
def yX10_best : MethodName := ⟨RX10, "best", "(II)I"⟩
abbrev cX10_goes : ByteArray := prog_1_method_28_code
def yX10_goes : MethodName := ⟨RX10, "goes", "(III)I"⟩
abbrev cX10_begins : ByteArray := prog_1_method_29_code
def yX10_begins : MethodName := ⟨RX10, "begins", "(I)I"⟩
abbrev cX10_soon : ByteArray := prog_1_method_30_code
def yX10_soon : MethodName := ⟨RX10, "soon", "(II)I"⟩
abbrev cX10_far : ByteArray := prog_1_method_31_code
def yX10_far : MethodName := ⟨RX10, "far", "(II)I"⟩
abbrev cX10_hangs : ByteArray := prog_1_method_32_code
def yX10_hangs : MethodName := ⟨RX10, "hangs", "(I)I"⟩
abbrev cX10_rest : ByteArray := prog_1_method_33_code
def yX10_rest : MethodName := ⟨RX10, "rest", "()I"⟩
abbrev cX10_trumpet : ByteArray := prog_1_method_34_code
def yX10_trumpet : MethodName := ⟨RX10, "trumpet", "()I"⟩
abbrev cX10_quiet : ByteArray := prog_1_method_35_code
def yX10_quiet : MethodName := ⟨RX10, "quiet", "(I)I"⟩
abbrev cX10_quietly : ByteArray := prog_1_method_36_code
def yX10_quietly : MethodName := ⟨RX10, "quietly", "(I)I"⟩
abbrev cX10_card : ByteArray := prog_1_method_37_code
def yX10_card : MethodName := ⟨RX10, "card", "(II)I"⟩
abbrev cX10_desk : ByteArray := prog_1_method_38_code
def yX10_desk : MethodName := ⟨RX10, "desk", "(I)I"⟩
abbrev cX10_one : ByteArray := prog_1_method_39_code
def yX10_one : MethodName := ⟨RX10, "one", "(I)I"⟩
abbrev cX10_two : ByteArray := prog_1_method_40_code
def yX10_two : MethodName := ⟨RX10, "two", "(II)I"⟩
abbrev cX10_way : ByteArray := prog_1_method_41_code
def yX10_way : MethodName := ⟨RX10, "way", "(IIII)I"⟩
abbrev cX10_slips : ByteArray := prog_1_method_42_code
def yX10_slips : MethodName := ⟨RX10, "slips", "(II)I"⟩
abbrev cX10_boys : ByteArray := prog_1_method_43_code
def yX10_boys : MethodName := ⟨RX10, "boys", "()I"⟩
abbrev cX10_pairs : ByteArray := prog_1_method_44_code
def yX10_pairs : MethodName := ⟨RX10, "pairs", "()I"⟩
abbrev cX10_which : ByteArray := prog_1_method_45_code
def yX10_which : MethodName := ⟨RX10, "which", "(I)I"⟩
abbrev cX10_question : ByteArray := prog_1_method_46_code
def yX10_question : MethodName := ⟨RX10, "question", "(I)I"⟩
abbrev cX10_yes : ByteArray := prog_1_method_47_code
def yX10_yes : MethodName := ⟨RX10, "yes", "(II)I"⟩
abbrev cX10_list : ByteArray := prog_1_method_48_code
def yX10_list : MethodName := ⟨RX10, "list", "(I)I"⟩
abbrev cX10_meant : ByteArray := prog_1_method_49_code
def yX10_meant : MethodName := ⟨RX10, "meant", "(III)I"⟩
abbrev cX10_read : ByteArray := prog_1_method_50_code
def yX10_read : MethodName := ⟨RX10, "read", "(III)J"⟩
abbrev cX10_guess : ByteArray := prog_1_method_51_code
def yX10_guess : MethodName := ⟨RX10, "guess", "(I)I"⟩
abbrev cX10_right : ByteArray := prog_1_method_52_code
def yX10_right : MethodName := ⟨RX10, "right", "(I)J"⟩
abbrev cX10_habit : ByteArray := prog_1_method_53_code
def yX10_habit : MethodName := ⟨RX10, "habit", "(I)I"⟩
abbrev cX10_follows : ByteArray := prog_1_method_54_code
def yX10_follows : MethodName := ⟨RX10, "follows", "(II)I"⟩
abbrev cX10_period : ByteArray := prog_1_method_55_code
def yX10_period : MethodName := ⟨RX10, "period", "(I)I"⟩
abbrev cX10_drawn : ByteArray := prog_1_method_56_code
def yX10_drawn : MethodName := ⟨RX10, "drawn", "(III)I"⟩
abbrev cX10_lot : ByteArray := prog_1_method_57_code
def yX10_lot : MethodName := ⟨RX10, "lot", "(III)I"⟩
abbrev cX10_tell : ByteArray := prog_1_method_58_code
def yX10_tell : MethodName := ⟨RX10, "tell", "(III)I"⟩
abbrev cX10_shut : ByteArray := prog_1_method_59_code
def yX10_shut : MethodName := ⟨RX10, "shut", "(III)I"⟩
abbrev cX10_count : ByteArray := prog_1_method_60_code
def yX10_count : MethodName := ⟨RX10, "count", "(I)I"⟩
abbrev cX10_image : ByteArray := prog_1_method_61_code
def yX10_image : MethodName := ⟨RX10, "image", "(I)I"⟩
abbrev cX10_back : ByteArray := prog_1_method_62_code
def yX10_back : MethodName := ⟨RX10, "back", "(I)I"⟩
abbrev cX10_row : ByteArray := prog_1_method_63_code
def yX10_row : MethodName := ⟨RX10, "row", "(III)I"⟩
abbrev cX10_write : ByteArray := prog_1_method_64_code
def yX10_write : MethodName := ⟨RX10, "write", "(IIJ)I"⟩
abbrev cX10_paste : ByteArray := prog_1_method_65_code
def yX10_paste : MethodName := ⟨RX10, "paste", "(IIIII)I"⟩
abbrev cX10_hasHouse : ByteArray := prog_1_method_66_code
def yX10_hasHouse : MethodName := ⟨RX10, "hasHouse", "()Z"⟩
abbrev cX10_isRoom : ByteArray := prog_1_method_67_code
def yX10_isRoom : MethodName := ⟨RX10, "isRoom", "(I)Z"⟩
abbrev cX10_isRoomOrOut : ByteArray := prog_1_method_68_code
def yX10_isRoomOrOut : MethodName := ⟨RX10, "isRoomOrOut", "(I)Z"⟩
abbrev cX10_isMan : ByteArray := prog_1_method_69_code
def yX10_isMan : MethodName := ⟨RX10, "isMan", "(I)Z"⟩
abbrev cX10_isSet : ByteArray := prog_1_method_70_code
def yX10_isSet : MethodName := ⟨RX10, "isSet", "(I)Z"⟩
abbrev cX10_isPartOfMillion : ByteArray := prog_1_method_71_code
def yX10_isPartOfMillion : MethodName := ⟨RX10, "isPartOfMillion", "(I)Z"⟩
abbrev cX10_isBestLength : ByteArray := prog_1_method_72_code
def yX10_isBestLength : MethodName := ⟨RX10, "isBestLength", "(I)Z"⟩
abbrev cX10_isSeed : ByteArray := prog_1_method_73_code
def yX10_isSeed : MethodName := ⟨RX10, "isSeed", "(I)Z"⟩
abbrev cX10_isSlot : ByteArray := prog_1_method_74_code
def yX10_isSlot : MethodName := ⟨RX10, "isSlot", "(I)Z"⟩
abbrev cX10_askRound : ByteArray := prog_1_method_75_code
def yX10_askRound : MethodName := ⟨RX10, "askRound", "(IZ)I"⟩
abbrev cX10_askHabits : ByteArray := prog_1_method_76_code
def yX10_askHabits : MethodName := ⟨RX10, "askHabits", "(IZ)I"⟩
abbrev cX10_askRow : ByteArray := prog_1_method_77_code
def yX10_askRow : MethodName := ⟨RX10, "askRow", "(IZI)I"⟩
abbrev cX10_replay : ByteArray := prog_1_method_78_code
def yX10_replay : MethodName := ⟨RX10, "replay", "()V"⟩
abbrev cX10_foundIn : ByteArray := prog_1_method_79_code
def yX10_foundIn : MethodName := ⟨RX10, "foundIn", "(LCallForBrown$Row;I)I"⟩
abbrev cX10_worthOf : ByteArray := prog_1_method_80_code
def yX10_worthOf : MethodName := ⟨RX10, "worthOf", "(I)I"⟩
abbrev cX10_gainOf : ByteArray := prog_1_method_81_code
def yX10_gainOf : MethodName := ⟨RX10, "gainOf", "(II)I"⟩
abbrev cX10_canWalk : ByteArray := prog_1_method_82_code
def yX10_canWalk : MethodName := ⟨RX10, "canWalk", "(LCallForBrown$Row;I)Z"⟩
abbrev cX10_foundAtOnce : ByteArray := prog_1_method_83_code
def yX10_foundAtOnce : MethodName := ⟨RX10, "foundAtOnce", "(I)I"⟩
abbrev cX10_peopleOf : ByteArray := prog_1_method_84_code
def yX10_peopleOf : MethodName := ⟨RX10, "peopleOf", "(I)I"⟩
abbrev cX10_quietestSet : ByteArray := prog_1_method_85_code
def yX10_quietestSet : MethodName := ⟨RX10, "quietestSet", "(I)I"⟩
abbrev cX10_comesInto : ByteArray := prog_1_method_86_code
def yX10_comesInto : MethodName := ⟨RX10, "comesInto", "(II)I"⟩
abbrev cX10_mostFrequent : ByteArray := prog_1_method_87_code
def yX10_mostFrequent : MethodName := ⟨RX10, "mostFrequent", "(LCallForBrown$Row;I)I"⟩
abbrev cX10_countRows : ByteArray := prog_1_method_88_code
def yX10_countRows : MethodName := ⟨RX10, "countRows", "()I"⟩
def RX11 : String := "CallForBrownModel"
def TX11 : u_T := fun k => match k with
  | 0 => ("CallForBrownModel", "thrown", "I", false)
  | 1 => ("CallForBrownModel", "world", "[I", true)
  | 2 => ("CallForBrownModel", "images", "[I", true)
  | 3 => ("CallForBrownModel", "hasImage", "[Z", true)
  | 4 => ("CallForBrownModel", "tape", "[B", true)
  | 5 => ("CallForBrownModel", "taped", "I", false)
  | 6 => ("CallForBrownModel", "five", "[I", true)
  | 7 => ("CallForBrownModel", "size", "I", false)
  | 8 => ("CallForBrownModel", "at", "I", false)
  | 9 => ("CallForBrownModel", "from", "I", false)
  | 10 => ("CallForBrownModel", "token", "I", false)
  | 11 => ("CallForBrownModel", "value", "I", false)
  | 12 => ("CallForBrownModel", "faultKind", "I", false)
  | 13 => ("CallForBrownModel", "faultPlace", "I", false)
  | 14 => ("CallForBrownModel", "fresh", "[I", true)
  | 15 => ("CallForBrownModel", "part", "[I", true)
  | 16 => ("CallForBrownModel", "moved", "[I", true)
  | 17 => ("CallForBrownModel", "out", "I", false)
  | 18 => ("CallForBrownModel", "foundAll", "I", false)
  | 19 => ("CallForBrownModel", "way", "[I", true)
  | 20 => ("CallForBrownModel", "bestWay", "[I", true)
  | 21 => ("CallForBrownModel", "kept", "[I", true)
  | 22 => ("CallForBrownModel", "quietPeople", "I", false)
  | 23 => ("CallForBrownModel", "queue", "[I", true)
  | 24 => ("CallForBrownModel", "farOf", "[I", true)
  | 25 => ("CallForBrownModel", "cameFrom", "[I", true)
  | 26 => ("CallForBrownModel", "queued", "I", false)
  | 27 => ("CallForBrownModel", "asked", "[I", true)
  | 28 => ("CallForBrownModel", "drawX", "J", false)
  | 29 => ("CallForBrownModel", "foundMinute", "I", false)
  | 30 => ("CallForBrownModel", "lastRoom", "I", false)
  | 31 => ("CallForBrownModel", "many", "[I", true)
  | 32 => ("CallForBrownModel", "width", "[I", true)
  | 33 => ("CallForBrownModel", "numbers", "[J", true)
  | _ => ("CallForBrownModel", "moving", "[J", true)
def tyX11 : Nat → FieldType := fun k => match k with
  | 0 => .int
  | 1 => .array .int
  | 2 => .array .int
  | 3 => .array .boolean
  | 4 => .array .byte
  | 5 => .int
  | 6 => .array .int
  | 7 => .int
  | 8 => .int
  | 9 => .int
  | 10 => .int
  | 11 => .int
  | 12 => .int
  | 13 => .int
  | 14 => .array .int
  | 15 => .array .int
  | 16 => .array .int
  | 17 => .int
  | 18 => .int
  | 19 => .array .int
  | 20 => .array .int
  | 21 => .array .int
  | 22 => .int
  | 23 => .array .int
  | 24 => .array .int
  | 25 => .array .int
  | 26 => .int
  | 27 => .array .int
  | 28 => .long
  | 29 => .int
  | 30 => .int
  | 31 => .array .int
  | 32 => .array .int
  | 33 => .array .long
  | _ => .array .long
abbrev wsX110 : List Cond := u_ws RX11 TX11 35
theorem nmX11 : ∀ a, a < 35 → ∀ b, b < 35 → a ≠ b → (TX11 a).2.1 ≠ (TX11 b).2.1 := by decide +kernel
theorem tyX11_ok : ∀ k, k < 35 → parseFieldDescriptor (TX11 k).2.2.1 = some (tyX11 k) := by decide +kernel
abbrev cX11_init : ByteArray := prog_13_method_1_code
def yX11_init : MethodName := ⟨RX11, "<init>", "()V"⟩
abbrev cX11_in : ByteArray := prog_13_method_3_code
def yX11_in : MethodName := ⟨RX11, "in", "(JJJ)Z"⟩
abbrev cX11_bits : ByteArray := prog_13_method_4_code
def yX11_bits : MethodName := ⟨RX11, "bits", "(I)I"⟩
abbrev cX11_bit : ByteArray := prog_13_method_5_code
def yX11_bit : MethodName := ⟨RX11, "bit", "(II)I"⟩
abbrev cX11_image : ByteArray := prog_13_method_6_code
def yX11_image : MethodName := ⟨RX11, "image", "(I)I"⟩
abbrev cX11_back : ByteArray := prog_13_method_7_code
def yX11_back : MethodName := ⟨RX11, "back", "(I)I"⟩
abbrev cX11_isHouse : ByteArray := prog_13_method_8_code
def yX11_isHouse : MethodName := ⟨RX11, "isHouse", "()Z"⟩
abbrev cX11_isRoom : ByteArray := prog_13_method_9_code
def yX11_isRoom : MethodName := ⟨RX11, "isRoom", "(J)Z"⟩
abbrev cX11_isRoomOrNone : ByteArray := prog_13_method_10_code
def yX11_isRoomOrNone : MethodName := ⟨RX11, "isRoomOrNone", "(J)Z"⟩
abbrev cX11_isMan : ByteArray := prog_13_method_11_code
def yX11_isMan : MethodName := ⟨RX11, "isMan", "(I)Z"⟩
abbrev cX11_areMen : ByteArray := prog_13_method_12_code
def yX11_areMen : MethodName := ⟨RX11, "areMen", "(I)Z"⟩
abbrev cX11_of : ByteArray := prog_13_method_13_code
def yX11_of : MethodName := ⟨RX11, "of", "(II)I"⟩
abbrev cX11_ofMan : ByteArray := prog_13_method_14_code
def yX11_ofMan : MethodName := ⟨RX11, "ofMan", "(II)I"⟩
abbrev cX11_allRooms : ByteArray := prog_13_method_15_code
def yX11_allRooms : MethodName := ⟨RX11, "allRooms", "()I"⟩
abbrev cX11_feed : ByteArray := prog_13_method_16_code
def yX11_feed : MethodName := ⟨RX11, "feed", "(IIIII)I"⟩
abbrev cX11_end : ByteArray := prog_13_method_17_code
def yX11_end : MethodName := ⟨RX11, "end", "(I)I"⟩
abbrev cX11_see : ByteArray := prog_13_method_18_code
def yX11_see : MethodName := ⟨RX11, "see", "(I)I"⟩
abbrev cX11_advance : ByteArray := prog_13_method_19_code
def yX11_advance : MethodName := ⟨RX11, "advance", "()V"⟩
abbrev cX11_good : ByteArray := prog_13_method_20_code
def yX11_good : MethodName := ⟨RX11, "good", "()Z"⟩
abbrev cX11_errs : ByteArray := prog_13_method_21_code
def yX11_errs : MethodName := ⟨RX11, "errs", "(I)V"⟩
abbrev cX11_is : ByteArray := prog_13_method_22_code
def yX11_is : MethodName := ⟨RX11, "is", "(Ljava/lang/String;)Z"⟩
abbrev cX11_takes : ByteArray := prog_13_method_23_code
def yX11_takes : MethodName := ⟨RX11, "takes", "(Ljava/lang/String;)Z"⟩
abbrev cX11_needs : ByteArray := prog_13_method_24_code
def yX11_needs : MethodName := ⟨RX11, "needs", "(Ljava/lang/String;)V"⟩
abbrev cX11_number : ByteArray := prog_13_method_25_code
def yX11_number : MethodName := ⟨RX11, "number", "(II)I"⟩
abbrev cX11_told : ByteArray := prog_13_method_26_code
def yX11_told : MethodName := ⟨RX11, "told", "(Ljava/lang/String;II)I"⟩
abbrev cX11_fault : ByteArray := prog_13_method_27_code
def yX11_fault : MethodName := ⟨RX11, "fault", "(I)I"⟩
abbrev cX11_freshRoom : ByteArray := prog_13_method_28_code
def yX11_freshRoom : MethodName := ⟨RX11, "freshRoom", "()I"⟩
abbrev cX11_freshMan : ByteArray := prog_13_method_29_code
def yX11_freshMan : MethodName := ⟨RX11, "freshMan", "()I"⟩
abbrev cX11_readRoom : ByteArray := prog_13_method_30_code
def yX11_readRoom : MethodName := ⟨RX11, "readRoom", "()V"⟩
abbrev cX11_readDoor : ByteArray := prog_13_method_31_code
def yX11_readDoor : MethodName := ⟨RX11, "readDoor", "()V"⟩
abbrev cX11_readMan : ByteArray := prog_13_method_32_code
def yX11_readMan : MethodName := ⟨RX11, "readMan", "()V"⟩
abbrev cX11_readSlate : ByteArray := prog_13_method_33_code
def yX11_readSlate : MethodName := ⟨RX11, "readSlate", "()V"⟩
abbrev cX11_readNext : ByteArray := prog_13_method_34_code
def yX11_readNext : MethodName := ⟨RX11, "readNext", "()V"⟩
abbrev cX11_readLine : ByteArray := prog_13_method_35_code
def yX11_readLine : MethodName := ⟨RX11, "readLine", "()V"⟩
abbrev cX11_house : ByteArray := prog_13_method_36_code
def yX11_house : MethodName := ⟨RX11, "house", "()I"⟩
abbrev cX11_room : ByteArray := prog_13_method_37_code
def yX11_room : MethodName := ⟨RX11, "room", "(II)I"⟩
abbrev cX11_man : ByteArray := prog_13_method_38_code
def yX11_man : MethodName := ⟨RX11, "man", "(II)I"⟩
abbrev cX11_slate : ByteArray := prog_13_method_39_code
def yX11_slate : MethodName := ⟨RX11, "slate", "(II)I"⟩
abbrev cX11_hearsBy : ByteArray := prog_13_method_40_code
def yX11_hearsBy : MethodName := ⟨RX11, "hearsBy", "(II)I"⟩
abbrev cX11_hears : ByteArray := prog_13_method_41_code
def yX11_hears : MethodName := ⟨RX11, "hears", "(II)I"⟩
abbrev cX11_allSits : ByteArray := prog_13_method_42_code
def yX11_allSits : MethodName := ⟨RX11, "allSits", "()I"⟩
abbrev cX11_beAtFirst : ByteArray := prog_13_method_43_code
def yX11_beAtFirst : MethodName := ⟨RX11, "beAtFirst", "()V"⟩
abbrev cX11_wouldFind : ByteArray := prog_13_method_44_code
def yX11_wouldFind : MethodName := ⟨RX11, "wouldFind", "(II)I"⟩
abbrev cX11_callIn : ByteArray := prog_13_method_45_code
def yX11_callIn : MethodName := ⟨RX11, "callIn", "(II)I"⟩
abbrev cX11_goMinute : ByteArray := prog_13_method_46_code
def yX11_goMinute : MethodName := ⟨RX11, "goMinute", "(I)V"⟩
abbrev cX11_asItIs : ByteArray := prog_13_method_47_code
def yX11_asItIs : MethodName := ⟨RX11, "asItIs", "()V"⟩
abbrev cX11_inHouse : ByteArray := prog_13_method_48_code
def yX11_inHouse : MethodName := ⟨RX11, "inHouse", "()I"⟩
abbrev cX11_inMillion : ByteArray := prog_13_method_49_code
def yX11_inMillion : MethodName := ⟨RX11, "inMillion", "(I)I"⟩
abbrev cX11_parts : ByteArray := prog_13_method_50_code
def yX11_parts : MethodName := ⟨RX11, "parts", "(I)I"⟩
abbrev cX11_found : ByteArray := prog_13_method_51_code
def yX11_found : MethodName := ⟨RX11, "found", "()I"⟩
abbrev cX11_likely : ByteArray := prog_13_method_52_code
def yX11_likely : MethodName := ⟨RX11, "likely", "()I"⟩
abbrev cX11_here : ByteArray := prog_13_method_53_code
def yX11_here : MethodName := ⟨RX11, "here", "()I"⟩
abbrev cX11_chance : ByteArray := prog_13_method_54_code
def yX11_chance : MethodName := ⟨RX11, "chance", "(I)I"⟩
abbrev cX11_call : ByteArray := prog_13_method_55_code
def yX11_call : MethodName := ⟨RX11, "call", "(I)I"⟩
abbrev cX11_undo : ByteArray := prog_13_method_56_code
def yX11_undo : MethodName := ⟨RX11, "undo", "()I"⟩
abbrev cX11_anew : ByteArray := prog_13_method_57_code
def yX11_anew : MethodName := ⟨RX11, "anew", "()I"⟩
abbrev cX11_later : ByteArray := prog_13_method_58_code
def yX11_later : MethodName := ⟨RX11, "later", "(II)I"⟩
abbrev cX11_numberAt : ByteArray := prog_13_method_59_code
def yX11_numberAt : MethodName := ⟨RX11, "numberAt", "(II)J"⟩
abbrev cX11_roomAt : ByteArray := prog_13_method_60_code
def yX11_roomAt : MethodName := ⟨RX11, "roomAt", "(II)I"⟩
abbrev cX11_asksRound : ByteArray := prog_13_method_61_code
def yX11_asksRound : MethodName := ⟨RX11, "asksRound", "(IZ)I"⟩
abbrev cX11_goRound : ByteArray := prog_13_method_62_code
def yX11_goRound : MethodName := ⟨RX11, "goRound", "(III)I"⟩
abbrev cX11_worthOf : ByteArray := prog_13_method_63_code
def yX11_worthOf : MethodName := ⟨RX11, "worthOf", "(I)I"⟩
abbrev cX11_gainOf : ByteArray := prog_13_method_64_code
def yX11_gainOf : MethodName := ⟨RX11, "gainOf", "(III)I"⟩
abbrev cX11_round : ByteArray := prog_13_method_65_code
def yX11_round : MethodName := ⟨RX11, "round", "(I)I"⟩
abbrev cX11_behind : ByteArray := prog_13_method_66_code
def yX11_behind : MethodName := ⟨RX11, "behind", "(II)I"⟩
abbrev cX11_disturbs : ByteArray := prog_13_method_67_code
def yX11_disturbs : MethodName := ⟨RX11, "disturbs", "(I)I"⟩
abbrev cX11_gain : ByteArray := prog_13_method_68_code
def yX11_gain : MethodName := ⟨RX11, "gain", "(I)I"⟩
abbrev cX11_stop : ByteArray := prog_13_method_69_code
def yX11_stop : MethodName := ⟨RX11, "stop", "(I)I"⟩
abbrev cX11_doubt : ByteArray := prog_13_method_70_code
def yX11_doubt : MethodName := ⟨RX11, "doubt", "(II)I"⟩
abbrev cX11_goesTo : ByteArray := prog_13_method_71_code
def yX11_goesTo : MethodName := ⟨RX11, "goesTo", "(II)Z"⟩
abbrev cX11_canWalk : ByteArray := prog_13_method_72_code
def yX11_canWalk : MethodName := ⟨RX11, "canWalk", "(II)Z"⟩
abbrev cX11_walks : ByteArray := prog_13_method_73_code
def yX11_walks : MethodName := ⟨RX11, "walks", "(II)I"⟩
abbrev cX11_penny : ByteArray := prog_13_method_74_code
def yX11_penny : MethodName := ⟨RX11, "penny", "(I)I"⟩
abbrev cX11_hangs : ByteArray := prog_13_method_75_code
def yX11_hangs : MethodName := ⟨RX11, "hangs", "(I)I"⟩
abbrev cX11_nextWay : ByteArray := prog_13_method_76_code
def yX11_nextWay : MethodName := ⟨RX11, "nextWay", "(I)Z"⟩
abbrev cX11_isWay : ByteArray := prog_13_method_77_code
def yX11_isWay : MethodName := ⟨RX11, "isWay", "(II)Z"⟩
abbrev cX11_bestFrom : ByteArray := prog_13_method_78_code
def yX11_bestFrom : MethodName := ⟨RX11, "bestFrom", "(II)I"⟩
abbrev cX11_best : ByteArray := prog_13_method_79_code
def yX11_best : MethodName := ⟨RX11, "best", "(II)I"⟩
abbrev cX11_goes : ByteArray := prog_13_method_80_code
def yX11_goes : MethodName := ⟨RX11, "goes", "(III)I"⟩
abbrev cX11_begins : ByteArray := prog_13_method_81_code
def yX11_begins : MethodName := ⟨RX11, "begins", "(I)I"⟩
abbrev cX11_soon : ByteArray := prog_13_method_82_code
def yX11_soon : MethodName := ⟨RX11, "soon", "(II)I"⟩
abbrev cX11_wider : ByteArray := prog_13_method_83_code
def yX11_wider : MethodName := ⟨RX11, "wider", "(I)I"⟩
abbrev cX11_far : ByteArray := prog_13_method_84_code
def yX11_far : MethodName := ⟨RX11, "far", "(II)I"⟩
abbrev cX11_rest : ByteArray := prog_13_method_85_code
def yX11_rest : MethodName := ⟨RX11, "rest", "()I"⟩
abbrev cX11_trumpet : ByteArray := prog_13_method_86_code
def yX11_trumpet : MethodName := ⟨RX11, "trumpet", "()I"⟩
abbrev cX11_quietBy : ByteArray := prog_13_method_87_code
def yX11_quietBy : MethodName := ⟨RX11, "quietBy", "(I)I"⟩
abbrev cX11_quiet : ByteArray := prog_13_method_88_code
def yX11_quiet : MethodName := ⟨RX11, "quiet", "(I)I"⟩
abbrev cX11_quietly : ByteArray := prog_13_method_89_code
def yX11_quietly : MethodName := ⟨RX11, "quietly", "(I)I"⟩
abbrev cX11_cardIn : ByteArray := prog_13_method_90_code
def yX11_cardIn : MethodName := ⟨RX11, "cardIn", "(II)I"⟩
abbrev cX11_card : ByteArray := prog_13_method_91_code
def yX11_card : MethodName := ⟨RX11, "card", "(II)I"⟩
abbrev cX11_desk : ByteArray := prog_13_method_92_code
def yX11_desk : MethodName := ⟨RX11, "desk", "(I)I"⟩
abbrev cX11_state : ByteArray := prog_13_method_93_code
def yX11_state : MethodName := ⟨RX11, "state", "(III)I"⟩
abbrev cX11_meet : ByteArray := prog_13_method_94_code
def yX11_meet : MethodName := ⟨RX11, "meet", "(III)V"⟩
abbrev cX11_chase : ByteArray := prog_13_method_95_code
def yX11_chase : MethodName := ⟨RX11, "chase", "(IIZ)I"⟩
abbrev cX11_farTo : ByteArray := prog_13_method_96_code
def yX11_farTo : MethodName := ⟨RX11, "farTo", "(I)I"⟩
abbrev cX11_one : ByteArray := prog_13_method_97_code
def yX11_one : MethodName := ⟨RX11, "one", "(I)I"⟩
abbrev cX11_two : ByteArray := prog_13_method_98_code
def yX11_two : MethodName := ⟨RX11, "two", "(II)I"⟩
abbrev cX11_way : ByteArray := prog_13_method_99_code
def yX11_way : MethodName := ⟨RX11, "way", "(IIII)I"⟩
abbrev cX11_slips : ByteArray := prog_13_method_100_code
def yX11_slips : MethodName := ⟨RX11, "slips", "(II)I"⟩
abbrev cX11_boys : ByteArray := prog_13_method_101_code
def yX11_boys : MethodName := ⟨RX11, "boys", "()I"⟩
abbrev cX11_pairs : ByteArray := prog_13_method_102_code
def yX11_pairs : MethodName := ⟨RX11, "pairs", "()I"⟩
abbrev cX11_saying : ByteArray := prog_13_method_103_code
def yX11_saying : MethodName := ⟨RX11, "saying", "(II)I"⟩
abbrev cX11_askedBy : ByteArray := prog_13_method_104_code
def yX11_askedBy : MethodName := ⟨RX11, "askedBy", "(II)I"⟩
abbrev cX11_fillAsked : ByteArray := prog_13_method_105_code
def yX11_fillAsked : MethodName := ⟨RX11, "fillAsked", "()V"⟩
abbrev cX11_which : ByteArray := prog_13_method_106_code
def yX11_which : MethodName := ⟨RX11, "which", "(I)I"⟩
abbrev cX11_question : ByteArray := prog_13_method_107_code
def yX11_question : MethodName := ⟨RX11, "question", "(I)I"⟩
abbrev cX11_yes : ByteArray := prog_13_method_108_code
def yX11_yes : MethodName := ⟨RX11, "yes", "(II)I"⟩
abbrev cX11_tellsApart : ByteArray := prog_13_method_109_code
def yX11_tellsApart : MethodName := ⟨RX11, "tellsApart", "(II)Z"⟩
abbrev cX11_list : ByteArray := prog_13_method_110_code
def yX11_list : MethodName := ⟨RX11, "list", "(I)I"⟩
abbrev cX11_divisor : ByteArray := prog_13_method_111_code
def yX11_divisor : MethodName := ⟨RX11, "divisor", "(JJ)J"⟩
abbrev cX11_part : ByteArray := prog_13_method_112_code
def yX11_part : MethodName := ⟨RX11, "part", "(JJI)J"⟩
abbrev cX11_meant : ByteArray := prog_13_method_113_code
def yX11_meant : MethodName := ⟨RX11, "meant", "(III)I"⟩
abbrev cX11_slateAll : ByteArray := prog_13_method_114_code
def yX11_slateAll : MethodName := ⟨RX11, "slateAll", "(I)J"⟩
abbrev cX11_slateOf : ByteArray := prog_13_method_115_code
def yX11_slateOf : MethodName := ⟨RX11, "slateOf", "(II)J"⟩
abbrev cX11_likelyRead : ByteArray := prog_13_method_116_code
def yX11_likelyRead : MethodName := ⟨RX11, "likelyRead", "(II)J"⟩
abbrev cX11_allRead : ByteArray := prog_13_method_117_code
def yX11_allRead : MethodName := ⟨RX11, "allRead", "(I)J"⟩
abbrev cX11_read : ByteArray := prog_13_method_118_code
def yX11_read : MethodName := ⟨RX11, "read", "(III)J"⟩
abbrev cX11_guess : ByteArray := prog_13_method_119_code
def yX11_guess : MethodName := ⟨RX11, "guess", "(I)I"⟩
abbrev cX11_right : ByteArray := prog_13_method_120_code
def yX11_right : MethodName := ⟨RX11, "right", "(I)J"⟩
abbrev cX11_asksHabit : ByteArray := prog_13_method_121_code
def yX11_asksHabit : MethodName := ⟨RX11, "asksHabit", "(IZ)I"⟩
abbrev cX11_oftenest : ByteArray := prog_13_method_122_code
def yX11_oftenest : MethodName := ⟨RX11, "oftenest", "(II)I"⟩
abbrev cX11_habit : ByteArray := prog_13_method_123_code
def yX11_habit : MethodName := ⟨RX11, "habit", "(I)I"⟩
abbrev cX11_follows : ByteArray := prog_13_method_124_code
def yX11_follows : MethodName := ⟨RX11, "follows", "(II)I"⟩
abbrev cX11_period : ByteArray := prog_13_method_125_code
def yX11_period : MethodName := ⟨RX11, "period", "(I)I"⟩
abbrev cX11_draw : ByteArray := prog_13_method_126_code
def yX11_draw : MethodName := ⟨RX11, "draw", "(I)I"⟩
abbrev cX11_firstRoom : ByteArray := prog_13_method_127_code
def yX11_firstRoom : MethodName := ⟨RX11, "firstRoom", "()I"⟩
abbrev cX11_doorFrom : ByteArray := prog_13_method_128_code
def yX11_doorFrom : MethodName := ⟨RX11, "doorFrom", "(II)I"⟩
abbrev cX11_goEvening : ByteArray := prog_13_method_129_code
def yX11_goEvening : MethodName := ⟨RX11, "goEvening", "(JI)V"⟩
abbrev cX11_isSeed : ByteArray := prog_13_method_130_code
def yX11_isSeed : MethodName := ⟨RX11, "isSeed", "(I)Z"⟩
abbrev cX11_drawn : ByteArray := prog_13_method_131_code
def yX11_drawn : MethodName := ⟨RX11, "drawn", "(III)I"⟩
abbrev cX11_lot : ByteArray := prog_13_method_132_code
def yX11_lot : MethodName := ⟨RX11, "lot", "(III)I"⟩
abbrev cX11_tell : ByteArray := prog_13_method_133_code
def yX11_tell : MethodName := ⟨RX11, "tell", "(III)I"⟩
abbrev cX11_door : ByteArray := prog_13_method_134_code
def yX11_door : MethodName := ⟨RX11, "door", "(III)V"⟩
abbrev cX11_shut : ByteArray := prog_13_method_135_code
def yX11_shut : MethodName := ⟨RX11, "shut", "(III)I"⟩
abbrev cX11_count : ByteArray := prog_13_method_136_code
def yX11_count : MethodName := ⟨RX11, "count", "(I)I"⟩
abbrev cX11_isSlot : ByteArray := prog_13_method_137_code
def yX11_isSlot : MethodName := ⟨RX11, "isSlot", "(I)Z"⟩
abbrev cX11_cut : ByteArray := prog_13_method_138_code
def yX11_cut : MethodName := ⟨RX11, "cut", "(JI)J"⟩
abbrev cX11_row : ByteArray := prog_13_method_139_code
def yX11_row : MethodName := ⟨RX11, "row", "(III)I"⟩
abbrev cX11_write : ByteArray := prog_13_method_140_code
def yX11_write : MethodName := ⟨RX11, "write", "(IIJ)I"⟩
abbrev cX11_paste : ByteArray := prog_13_method_141_code
def yX11_paste : MethodName := ⟨RX11, "paste", "(IIIII)I"⟩
def RJ7 : String := "java/util/Arrays"
def TJ7 : u_T := fun k => match k with
  | _ => ("", "", "", false)
def tyJ7 : Nat → FieldType := fun k => match k with
  | _ => .int
abbrev wsJ70 : List Cond := u_ws RJ7 TJ7 0
theorem nmJ7 : ∀ a, a < 0 → ∀ b, b < 0 → a ≠ b → (TJ7 a).2.1 ≠ (TJ7 b).2.1 := by decide +kernel
theorem tyJ7_ok : ∀ k, k < 0 → parseFieldDescriptor (TJ7 k).2.2.1 = some (tyJ7 k) := by decide +kernel
abbrev cJ7_fill_d0a16 : ByteArray := prog_20_method_101_code
def yJ7_fill_d0a16 : MethodName := ⟨RJ7, "fill", "([JJ)V"⟩
abbrev cJ7_fill_53178 : ByteArray := prog_20_method_103_code
def yJ7_fill_53178 : MethodName := ⟨RJ7, "fill", "([II)V"⟩
def RL : String := "CallForBrownLaw"
abbrev cL_law : ByteArray := code
def yL_law : MethodName := ⟨RL, "law", "([I)Z"⟩
abbrev vwCl : List vw_C := [(RX0, TX0, 3), (RX1, TX1, 7), (RX2, TX2, 3), (RX3, TX3, 14), (RX4, TX4, 1), (RX5, TX5, 4), (RX6, TX6, 7), (RX7, TX7, 4), (RX8, TX8, 4), (RX9, TX9, 2), (RX10, TX10, 12), (RX11, TX11, 35)]
end
section
def va_AOA (ty : FieldType) (U : State) : Prop := (Cond.arrayOver (.array ty)).before #[] U = true
theorem va_AOA.use {ty : FieldType} {A : Array Value} {U : State} (h : va_AOA ty U) : (Cond.arrayOver (.array ty)).before A U = true := h
theorem va_AOA.moved {ty : FieldType} {u U : State} (hvm : u.vm.Alike U.vm) (h : va_AOA ty u) : va_AOA ty U := by
  have h0 := h
  unfold va_AOA Cond.before Cond.holds at h0
  simp only [Cond.value, beq_iff_eq] at h0
  cases hc : u.vm.findClass (FieldType.array ty).toString with
  | none => simp [hc] at h0
  | some comp =>
    simp only [hc, Option.bind_some, Option.bind_eq_some_iff, Option.map_eq_some_iff] at h0
    obtain ⟨c, h2, k, h3, h4⟩ := h0
    obtain ⟨k', hk', he⟩ := hvm.2.2 _ _ h3
    have hi : (U.vm.classes.findIdx? fun (x : Class) => match x.kind with | .array component _ => component == comp | _ => false) = some c := by
      refine (va_idx_bare U.vm comp).symm.trans ?_
      first | rw [hvm.bare_eq] | rw [← hvm.bare_eq]
      exact (va_idx_bare u.vm comp).trans h2
    have f1 : U.vm.findClass (FieldType.array ty).toString = some comp := by rw [hvm.findClass]; exact hc
    unfold va_AOA Cond.before Cond.holds
    simp only [Cond.value, beq_iff_eq]
    rw [f1, Option.bind_some]
    simp only [Option.bind_eq_some_iff, Option.map_eq_some_iff]
    refine ⟨c, hi, k', hk', ?_⟩
    rw [he]
    cases hkd : k.kind with
    | array component ty' =>
      rw [hkd] at h4
      simp only at h4 ⊢
      rw [hvm.findClass]
      exact h4
    | _ => rw [hkd] at h4; simp at h4
/-! ===== BEGIN new T[n][m]: the outer array a place, the inner ones among the pooled ===== -/
/-- f, but v at every address of l -/
def vr_up {α : Type} (f : Nat → α) (l : List Nat) (v : α) : Nat → α := fun a => if a ∈ l then v else f a
theorem vr_up_in {α : Type} {f : Nat → α} {l : List Nat} {v : α} {a : Nat} (h : a ∈ l) : vr_up f l v a = v := if_pos h
theorem vr_up_ne {α : Type} {f : Nat → α} {l : List Nat} {v : α} {a : Nat} (h : a ∉ l) : vr_up f l v a = f a := if_neg h
theorem vr_rows {L l : List Nat} {f : Nat → va_E} {e : va_E} (h : ∀ a, a ∈ l → a ∉ L) : va_pl L f ++ l.map (fun a => (a, e)) = va_pl (L ++ l) (vr_up f l e) := by
  unfold va_pl
  rw [List.map_append]
  congr 1
  · apply List.map_congr_left
    intro a ha
    rw [vr_up_ne (fun q => h a q ha)]
  · apply List.map_congr_left
    intro a ha
    rw [vr_up_in ha]
theorem vr_lay {X rows : va_W} {x : Nat × va_E} {pl : va_W} {D : va_G} {cl : List vw_C} {H : Heap} (hP : va_P D cl (((X ++ pl) ++ [x]) ++ rows) H) : va_P D cl ((X ++ [x]) ++ (pl ++ rows)) H := by
  rw [List.append_assoc (X ++ pl)] at hP
  have h := va_P.swap hP
  rw [← List.append_assoc X] at h
  have h2 := va_P.swap h
  rw [List.append_assoc (X ++ [x])] at h2
  exact h2
theorem vr_layD {X rows : va_W} {x : Nat × va_E} {pl : va_W} {A : Nat → Prop} (hD : va_D A (((X ++ pl) ++ [x]) ++ rows)) : va_D A ((X ++ [x]) ++ (pl ++ rows)) := by
  rw [List.append_assoc (X ++ pl)] at hD
  have h := va_D.swap hD
  rw [← List.append_assoc X] at h
  have h2 := va_D.swap h
  rw [List.append_assoc (X ++ [x])] at h2
  exact h2
theorem vr_outer (c : ClassId) (N h0 : Nat) : ∀ i : Nat, Jvm.Free.Multi.outerC c N h0 i = arrV c N (fun j => va_rf (if j < i then some (h0 + 1 + j) else none))
  | 0 => by
    show ({ cls := c, slots := Array.replicate N .null, vm := .none } : Cell) = _
    rw [arrV_new]
    refine congrArg (arrV c N) (funext fun j => ?_)
    simp [va_rf]
  | i + 1 => by
    show (Jvm.Free.Multi.outerC c N h0 i).setSlot i (.ref (h0 + 1 + i)) = _
    rw [vr_outer c N h0 i, arrV_store]
    refine congrArg (arrV c N) (funext fun j => ?_)
    by_cases e : j = i
    · subst e
      simp [updV, va_rf]
    · by_cases h : j < i
      · simp [updV, e, h, Nat.lt_succ_of_lt h]
      · simp [updV, e, h, show ¬ j < i + 1 by omega]
section VGM
variable {p : Program} {l : Launch} {e : Env} {R : Room} {s : State} {m : MethodId} {args : Array Value} {below : List Frame} {meth : Method} {c : Code} {H : Heap} {locs : List Loc} {cells slots : Nat} {Q : State → Prop}
variable {cc : ByteArray} {pc : Nat} {ls : Array Slot} {rest : List Value} {D : va_G} {cl : List vw_C} {A : Nat → Prop} {a : Nat} {tys : List (ClassId × FieldType)} {ws : va_W} {H0 : Heap}
theorem va_mna {X : va_W} {L : List Nat} {f : Nat → va_E} {cc : ByteArray} (hexec : p.tables.exec = Jvm.exec) (hb : c.code = cc) {own : String} {index : Nat} {ty : FieldType} {cy : ClassId} (hown : s.vm.findClass own = some m.cls) (hclink : (Cond.classLink own index ("[" ++ (FieldType.array ty).toString)).before args s = true) (hover : va_AOA ty s) (harr : (Cond.arrayClass ty).before args s = true) (hcy : s.vm.findClass (FieldType.array ty).toString = some cy)
    (hK : va_K D cl tys s) (hP : va_P D cl (X ++ va_pl L f) H) (hD : va_D A (X ++ va_pl L f)) (hS : va_S A H0 H locs) (hA : ∀ q, H0.size ≤ q → A q) {n k : Int32} {N' K' : Nat} {z : vp_A} (hn : ¬ n < 0) (hk : ¬ k < 0) (hN : n.toNatClampNeg = N') (hM : k.toNatClampNeg = K')
    (hb1 : N' * 4 ≤ 536870912) (hb2 : K' * componentBytes ty ≤ 536870912) (hb3 : K' ≤ 536870912) (hdf : fits ty (defaultValue ty) = true) (hdd : (defaultValue ty).isDefault = true) (hcells : cells + (1 + N') ≤ R.cells) (hslots : slots + (N' + N' * K') ≤ R.slots) (hz : ∀ c : ClassId, Jvm.Free.Multi.innerC c K' (defaultValue ty) = vp_cell c z) (hdg : decode cc pc = .ok (.multianewarray index 2, 4))
    (kk : ∀ (q : Nat) (r : Nat → Nat) (cA : ClassId) (H1 : Heap), (∀ i j : Nat, i < N' → j < N' → r i = r j → i = j) → (∀ i : Nat, i < N' → r i ∉ L) → va_K D cl (tys ++ [(cA, .array ty)]) s →
      va_P D cl ((X ++ [(q, .inl (cA, N', .inr (.inr (.inr (.inr (fun i => if i < N' then some (r i) else none))))))]) ++ va_pl (L ++ (List.range N').map r) (vr_up f ((List.range N').map r) (.inl (cy, z)))) H1 → va_D A ((X ++ [(q, .inl (cA, N', .inr (.inr (.inr (.inr (fun i => if i < N' then some (r i) else none))))))]) ++ va_pl (L ++ (List.range N').map r) (vr_up f ((List.range N').map r) (.inl (cy, z)))) → va_S A H0 H1 locs →
      W p l e R s m args below meth c H1 locs (cells + 1 + N') (slots + N' + N' * K') Q (F0 m (pc + 4) ls (.ref q :: rest))) : W p l e R s m args below meth c H locs cells slots Q (F0 m pc ls (.int k :: .int n :: rest)) := by
  subst hN
  subst hM
  intro T hT Xs
  obtain ⟨vm₁, cA, comp, -, fA, fC, hO, -, X', step⟩ := Xs.multianewarray2F hexec hown hclink (va_AOA.use hover) harr (g := F0 m pc ls (.int k :: .int n :: rest)) rfl (by rw [hb]; exact hdg) rfl hn hk hb1 hb2 hb3 hdf hdd hcells hslots
  have ec : some cy = some comp := hcy.symm.trans fC
  cases ec
  generalize hF : Jvm.Free.Multi.fill (T.setVm vm₁) cA cy n.toNatClampNeg k.toNatClampNeg (defaultValue ty) n.toNatClampNeg = F at X' step
  have hTh : (T.setVm vm₁).heap = H := hT
  obtain ⟨f1, f2, -, -⟩ := Jvm.Free.Multi.fill_facts (T.setVm vm₁) cA cy n.toNatClampNeg k.toNatClampNeg (defaultValue ty) n.toNatClampNeg
  rw [hF, hTh] at f1 f2
  have hold : ∀ x : Nat, x < H.size → F.heap[x]? = H[x]? := fun x hx => by
    have := Jvm.Free.Multi.fill_old (T.setVm vm₁) cA cy n.toNatClampNeg k.toNatClampNeg (defaultValue ty) (a := x) (by rw [hTh]; exact hx) n.toNatClampNeg
    rw [hF, hTh] at this
    exact this
  have hrow : ∀ j : Nat, j < n.toNatClampNeg → F.heap[H.size + 1 + j]? = some (vp_cell cy z) := fun j hj => by
    have := Jvm.Free.Multi.fill_inner (T.setVm vm₁) cA cy n.toNatClampNeg k.toNatClampNeg (defaultValue ty) n.toNatClampNeg j hj
    rw [hF, hTh, hz] at this
    exact this
  have hout : Jvm.Free.Multi.outerC cA n.toNatClampNeg H.size n.toNatClampNeg = vp_cell cA (n.toNatClampNeg, .inr (.inr (.inr (.inr (fun i => if i < n.toNatClampNeg then some (H.size + 1 + i) else none))))) := by
    rw [vp_cell_q]
    exact vr_outer cA n.toNatClampNeg H.size n.toNatClampNeg
  rw [hout] at f2
  have hlt : ∀ a, a ∈ L → a < H.size := fun a ha => by
    obtain ⟨k9, hk9⟩ := va_pl_get (X := X) (f := f) ha
    exact (hP k9 _ hk9).lt
  have hnl : ∀ i : Nat, i < n.toNatClampNeg → H.size + 1 + i ∉ L := fun i _ h => by
    have := hlt _ h
    omega
  have hnm : ∀ a, a ∈ (List.range n.toNatClampNeg).map (fun i => H.size + 1 + i) → a ∉ L := fun a ha h => by
    obtain ⟨i, -, rfl⟩ := List.mem_map.mp ha
    have := hlt _ h
    omega
  have hP0 : va_P D cl (X ++ va_pl L f) F.heap := hP.kept (fun k9 x hx => hold x.1 ((hP k9 x hx).lt))
  have hP1 : va_P D cl ((X ++ va_pl L f) ++ [(H.size, .inl (cA, n.toNatClampNeg, .inr (.inr (.inr (.inr (fun i => if i < n.toNatClampNeg then some (H.size + 1 + i) else none))))))]) F.heap := hP0.app (fun k9 x hx => by
    have h0 : k9 < 1 := (List.getElem?_eq_some_iff.mp hx).1
    rw [show k9 = 0 by omega] at hx
    cases hx
    exact f2)
  have hP2 : va_P D cl (((X ++ va_pl L f) ++ [(H.size, .inl (cA, n.toNatClampNeg, .inr (.inr (.inr (.inr (fun i => if i < n.toNatClampNeg then some (H.size + 1 + i) else none))))))]) ++ ((List.range n.toNatClampNeg).map (fun i => H.size + 1 + i)).map (fun a => (a, .inl (cy, z)))) F.heap := hP1.app (fun k9 x hx => by
    obtain ⟨a, ha, rfl⟩ := List.mem_map.mp (List.mem_of_getElem? hx)
    obtain ⟨i, hi, rfl⟩ := List.mem_map.mp ha
    exact hrow i (List.mem_range.mp hi))
  have hD2 : va_D A (((X ++ va_pl L f) ++ [(H.size, .inl (cA, n.toNatClampNeg, .inr (.inr (.inr (.inr (fun i => if i < n.toNatClampNeg then some (H.size + 1 + i) else none))))))]) ++ ((List.range n.toNatClampNeg).map (fun i => H.size + 1 + i)).map (fun a => (a, .inl (cy, z)))) := by
    have hD1 := hD.push (e := .inl (cA, n.toNatClampNeg, .inr (.inr (.inr (.inr (fun i => if i < n.toNatClampNeg then some (H.size + 1 + i) else none)))))) hP rfl (hA _ hS.1)
    generalize hW1 : (X ++ va_pl L f) ++ [(H.size, .inl (cA, n.toNatClampNeg, .inr (.inr (.inr (.inr (fun i => if i < n.toNatClampNeg then some (H.size + 1 + i) else none))))))] = W1 at hD1 hP1 ⊢
    have hle : ∀ (k9 : Nat) (x : Nat × va_E), W1[k9]? = some x → x.1 ≤ H.size := fun k9 x hx => by
      rw [← hW1] at hx
      by_cases hl : k9 < (X ++ va_pl L f).length
      · rw [List.getElem?_append_left hl] at hx
        exact Nat.le_of_lt ((hP k9 x hx).lt)
      · rw [List.getElem?_append_right (by omega)] at hx
        have h0 : k9 - (X ++ va_pl L f).length < 1 := (List.getElem?_eq_some_iff.mp hx).1
        rw [show k9 - (X ++ va_pl L f).length = 0 by omega] at hx
        cases hx
        exact Nat.le_refl _
    have hr : ∀ (k9 : Nat) (x : Nat × va_E), (((List.range n.toNatClampNeg).map (fun i => H.size + 1 + i)).map (fun a => ((a, .inl (cy, z)) : Nat × va_E)))[k9]? = some x → x.1 = H.size + 1 + k9 := fun k9 x hx => by
      rw [List.getElem?_map, List.getElem?_map] at hx
      by_cases h9 : k9 < n.toNatClampNeg
      · rw [List.getElem?_range h9] at hx
        cases hx
        rfl
      · have hn0 : (List.range n.toNatClampNeg)[k9]? = none := List.getElem?_eq_none (by rw [List.length_range]; omega)
        rw [hn0] at hx
        cases hx
    refine ⟨fun i j x y hi hj hxy => ?_, fun k9 x hx => ?_⟩
    · by_cases h1 : i < W1.length <;> by_cases h2 : j < W1.length
      · rw [List.getElem?_append_left h1] at hi
        rw [List.getElem?_append_left h2] at hj
        exact hD1.1 i j x y hi hj hxy
      · rw [List.getElem?_append_left h1] at hi
        rw [List.getElem?_append_right (by omega)] at hj
        have := hle _ _ hi
        have := hr _ _ hj
        omega
      · rw [List.getElem?_append_right (by omega)] at hi
        rw [List.getElem?_append_left h2] at hj
        have := hle _ _ hj
        have := hr _ _ hi
        omega
      · rw [List.getElem?_append_right (by omega)] at hi hj
        have := hr _ _ hi
        have := hr _ _ hj
        omega
    · by_cases h1 : k9 < W1.length
      · rw [List.getElem?_append_left h1] at hx
        exact hD1.2 k9 x hx
      · rw [List.getElem?_append_right (by omega)] at hx
        have := hr _ _ hx
        exact hA _ (by have := hS.1; omega)
  have hAr : ArrOfT s cA (.array ty) := fun N9 z9 => by
    obtain ⟨-, k9, hk9, cm9, hkk9⟩ := (hO 0 0 0).1
    exact ⟨(fun q hq => by cases hq), k9, hk9, cm9, hkk9⟩
  have hK2 : va_K D cl (tys ++ [(cA, .array ty)]) s := ⟨hK.1, fun k9 x hx => by
    by_cases hl : k9 < tys.length
    · rw [List.getElem?_append_left hl] at hx
      exact hK.2 k9 x hx
    · rw [List.getElem?_append_right (by omega)] at hx
      have h0 : k9 - tys.length < 1 := (List.getElem?_eq_some_iff.mp hx).1
      rw [show k9 - tys.length = 0 by omega] at hx
      cases hx
      exact ⟨hAr, fA⟩⟩
  obtain ⟨t, a1, b1⟩ := kk H.size (fun i => H.size + 1 + i) cA F.heap (fun i j _ _ h => by have h9 : H.size + 1 + i = H.size + 1 + j := h; omega) hnl hK2 (by rw [← vr_rows hnm]; exact vr_lay hP2) (by rw [← vr_rows hnm]; exact vr_layD hD2) ⟨by rw [f1]; have := hS.1; omega, fun x h1 h2 => (hold x (Nat.lt_of_lt_of_le h1 hS.1)).trans (hS.2.1 x h1 h2), hS.2.2⟩ F rfl X'
  refine ⟨t, step t ?_, b1⟩
  have e : T.heap.size = H.size := by rw [hT]
  rw [e]
  exact a1
end VGM
/-! ===== END ===== -/
end
section
/-! words of the tables that every contract may use: the good ones of lw_tbl -/
def tb : List Cond := lw_tbl.filter goodWord
theorem tb_in {w : Cond} (h : w ∈ lw_tbl) (g : goodWord w = true) : w ∈ tb := List.mem_filter.mpr ⟨h, g⟩
theorem tb_t {w : Cond} (h : w ∈ tables_1) (g : goodWord w = true) : w ∈ tb := tb_in (List.mem_append_right _ h) g
theorem tb_s {q : MethodName × Nat} (h : q ∈ lw_privs) (g : goodWord (Cond.selects q.1.cls q.1 q.1) = true) : Cond.selects q.1.cls q.1 q.1 ∈ tb := tb_in (List.mem_append_left _ (List.mem_map.mpr ⟨q, h, rfl⟩)) g
abbrev wk (y : MethodName) (b : ByteArray) (n : Nat) (r : Option FieldType) : List Cond := Cond.code y b n r :: tb
theorem tb_good : ∀ w ∈ tb, (w.onTables && w.keeps) = true ∨ ∃ ty, w = .arrayClass ty := fun _ h => good_of_word (List.mem_filter.mp h).2
theorem gk {y : MethodName} {b : ByteArray} {n : Nat} {r : Option FieldType} (h : Cond.code y b n r ∈ tb) : GoodIn tb (wk y b n r) := fun w hw => by
  rcases List.mem_cons.mp hw with rfl | hw
  · exact ⟨h, tb_good _ h⟩
  · exact ⟨hw, tb_good _ hw⟩
theorem gk1 {w : Cond} {ws : List Cond} (h : w ∈ tb) (hg : GoodIn tb ws) : GoodIn tb (w :: ws) := fun v hv => by
  rcases List.mem_cons.mp hv with rfl | hv
  · exact ⟨h, tb_good _ h⟩
  · exact hg v hv
theorem gkV {own C : String} {idx : Nat} {y : MethodName} {b : ByteArray} {n : Nat} {r : Option FieldType} (h1 : Cond.methodLink own idx y ∈ tb) (h2 : Cond.instanceMethod y ∈ tb) (h3 : Cond.selects C y y ∈ tb) (h4 : Cond.initialized C ∈ tb) (h5 : Cond.code y b n r ∈ tb) : GoodIn tb (wsV own idx C y (wk y b n r)) := gk1 h1 (gk1 h2 (gk1 h3 (gk1 h4 (gk h5))))
theorem gkS {own : String} {idx : Nat} {y : MethodName} {b : ByteArray} {n : Nat} {r : Option FieldType} (h1 : Cond.methodLink own idx y ∈ tb) (h2 : Cond.static y ∈ tb) (h4 : Cond.initialized own ∈ tb) (h5 : Cond.code y b n r ∈ tb) : GoodIn tb (wsS own idx y (wk y b n r)) := gk1 h1 (gk1 h2 (gk1 h4 (gk h5)))
/-! words of nest mates and of arrays of references: they are carried by every world -/
def NX (U : State) : Prop := (∀ (a : String) (i : Nat) (x : MethodName) (h : String), Cond.methodLinkNest a i x h ∈ lw_tbl → va_Nw (.methodLinkNest a i x h) U) ∧ (∀ C : String, Cond.arrayOver (.object C) ∈ lw_tbl → va_AO C U) ∧ ∀ ty : FieldType, Cond.arrayOver (.array ty) ∈ lw_tbl → va_AOA ty U
def KK (G : va_G) (tys : List (ClassId × FieldType)) (U : State) : Prop := va_K G vwCl tys U ∧ NX U
theorem KK.warm {G : va_G} {tys : List (ClassId × FieldType)} {s U : State} (hW : s.WarmedH U.vm) (h : KK G tys s) : KK G tys U := ⟨va_K.moved hW.alike h.1, fun a i x z hm => (h.2.1 a i x z hm).warmM hW, fun C hm => (h.2.2.1 C hm).moved hW.alike, fun ty hm => (h.2.2.2 ty hm).moved hW.alike⟩
theorem KK.call {G : va_G} {tys : List (ClassId × FieldType)} {U : State} {g : JFrame} {mk : MethodId} {a : Array Value} (h : KK G tys U) : KK G tys (U.calling g mk a) := ⟨va_K.moved (u := U) (U := U.calling g mk a) (Vm.Alike.refl U.vm) h.1, fun a9 i x z hm => va_tabs rfl (rfl : U.vm = (U.calling g mk a).vm) (h.2.1 a9 i x z hm), fun C hm => va_AO.moved (u := U) (Vm.Alike.refl U.vm) (h.2.2.1 C hm), fun ty hm => va_AOA.moved (u := U) (Vm.Alike.refl U.vm) (h.2.2.2 ty hm)⟩
/-! contracts: what is known at the start -/
def PreP (G : va_G) (tys : List (ClassId × FieldType)) (av : List Value) (wd : va_W) (sz : Nat) : Array Value → State → Prop := va_Pc av (fun U => U.heap.size = sz ∧ va_P G vwCl wd U.heap ∧ KK G tys U)
def PreD (G : va_G) (tys : List (ClassId × FieldType)) (av : List Value) (wd : va_W) (sz : Nat) : Array Value → State → Prop := va_Pc av (fun U => U.heap.size = sz ∧ va_P G vwCl wd U.heap ∧ KK G tys U ∧ va_D (fun _ => True) wd)
theorem PreP.blind {G : va_G} {tys : List (ClassId × FieldType)} {av : List Value} {wd : va_W} {sz : Nat} : FrameBlind (PreP G tys av wd sz) := fun a U g mk q => by
  obtain ⟨q0, q1, q2, q3⟩ := q
  exact ⟨q0, q1, q2, q3.call⟩
theorem PreD.blind {G : va_G} {tys : List (ClassId × FieldType)} {av : List Value} {wd : va_W} {sz : Nat} : FrameBlind (PreD G tys av wd sz) := fun a U g mk q => by
  obtain ⟨q0, q1, q2, q3, q4⟩ := q
  exact ⟨q0, q1, q2, q3.call, q4⟩
abbrev rmk (fr cl sl : Nat) : Room := { frames := fr, cells := cl, slots := sl, locals := 60 * fr }
/-- answers an int, changes nothing -/
def QPi (r : Int32) (sz : Nat) : Array Value → State → Outcome → State → Prop := va_Qi (fun (x : Int32) (_ : Unit) => x = r) (fun _ _ => True) (fun q => sz ≤ q)
def QPl (r : Int64) (sz : Nat) : Array Value → State → Outcome → State → Prop := va_Ql (fun (x : Int64) (_ : Unit) => x = r) (fun _ _ => True) (fun q => sz ≤ q)
/-- answers (an int, a long, nothing), leaves the world wd' u -/
def QDi {S : Type} (G : va_G) (post : Int32 → S → Prop) (wd' : S → va_W) (A : Nat → Prop) : Array Value → State → Outcome → State → Prop := va_Qi post (fun u t => va_P G vwCl (wd' u) t.heap ∧ va_D A (wd' u)) A
def QDv {S : Type} (G : va_G) (wd' : S → va_W) (A : Nat → Prop) : Array Value → State → Outcome → State → Prop := va_Qv (fun _ : S => True) (fun u t => va_P G vwCl (wd' u) t.heap ∧ va_D A (wd' u)) A
def PureI (l : Launch) (y : MethodName) (b : ByteArray) (n : Nat) (ret : Option FieldType) (fr : Nat) (G : va_G) (tys : List (ClassId × FieldType)) (av : List Value) (wd : va_W) (r : Int32) : Prop := ∀ sz : Nat, Met l y (wk y b n ret) (rmk fr 0 0) (PreP G tys av wd sz) (QPi r sz) 0 0 (fun q => sz ≤ q)
def PureL (l : Launch) (y : MethodName) (b : ByteArray) (n : Nat) (ret : Option FieldType) (fr : Nat) (G : va_G) (tys : List (ClassId × FieldType)) (av : List Value) (wd : va_W) (r : Int64) : Prop := ∀ sz : Nat, Met l y (wk y b n ret) (rmk fr 0 0) (PreP G tys av wd sz) (QPl r sz) 0 0 (fun q => sz ≤ q)
def ImpI {S : Type} (l : Launch) (y : MethodName) (b : ByteArray) (n : Nat) (ret : Option FieldType) (fr mc ms : Nat) (G : va_G) (tys : List (ClassId × FieldType)) (av : List Value) (wd : va_W) (post : Int32 → S → Prop) (wd' : S → va_W) : Prop := ∀ sz : Nat, Met l y (wk y b n ret) (rmk fr mc ms) (PreD G tys av wd sz) (QDi G post wd' (va_A wd sz)) mc ms (va_A wd sz)
def ImpV {S : Type} (l : Launch) (y : MethodName) (b : ByteArray) (n : Nat) (fr mc ms : Nat) (G : va_G) (tys : List (ClassId × FieldType)) (av : List Value) (wd : va_W) (wd' : S → va_W) : Prop := ∀ sz : Nat, Met l y (wk y b n none) (rmk fr mc ms) (PreD G tys av wd sz) (QDv G wd' (va_A wd sz)) mc ms (va_A wd sz)
/-- the walk that a contract without writes needs -/
theorem mkP {l : Launch} {y : MethodName} {b : ByteArray} {n : Nat} {ret : Option FieldType} {fr : Nat} {G : va_G} {tys : List (ClassId × FieldType)} {av : List Value} {wd : va_W} {Qc : Nat → Array Value → State → Outcome → State → Prop} (hy : plainName y.cls = true) (hav : (lg_sl av).length ≤ n)
    (body : ∀ (p : Program) (e : Env) (s : State) (m : MethodId) (args : Array Value) (below : List Frame) (meth : Method) (c : Code) (ls : Array Slot), p.tables.exec = Jvm.exec → c.code = b → c.maxLocals = n → meth.sig.returnType = ret → meth.locks = false → s.vm.findClass y.cls = some m.cls → (∀ w ∈ tb, w.before args s = true) → KK G tys s → va_P G vwCl wd s.heap → va_S (fun q => s.heap.size ≤ q) s.heap s.heap [] → lv_has ls n (lv_args 0 av) →
      W p l e (rmk fr 0 0) s m args below meth c s.heap [] 0 0 (MQ below (Qc s.heap.size) args s 0 0 (fun q => s.heap.size ≤ q)) (F0 m 0 ls [])) : ∀ sz : Nat, Met l y (wk y b n ret) (rmk fr 0 0) (PreP G tys av wd sz) (Qc sz) 0 0 (fun q => sz ≤ q) := by
  intro sz
  refine Met.ofW (cc := b) (maxL := n) (ret := ret) hy rfl ?_
  intro p e s m args below meth c s₁ B hml hv
  obtain ⟨rfl, hsz, hP, hK⟩ := hv
  subst hsz
  have hl := lv_entry av (n := n) hav
  have hts := atoms_spec (ws := wk y b n ret) B.pre
  rw [lg_entry_eq]
  generalize (lg_sl av ++ List.replicate (n - (lg_sl av).length) Slot.unset).toArray = ls at hl ⊢
  exact body p e s m _ below meth c ls B.exec B.bytes hml B.returns B.notSynchronized (findClass_of_methodNamed B.named) (fun w h => hts w (List.mem_cons_of_mem _ h)) hK hP va_S.rf hl
/-- the walk that a contract with writes needs -/
theorem mkD {l : Launch} {y : MethodName} {b : ByteArray} {n : Nat} {ret : Option FieldType} {fr mc ms : Nat} {G : va_G} {tys : List (ClassId × FieldType)} {av : List Value} {wd : va_W} {Qc : (Nat → Prop) → Array Value → State → Outcome → State → Prop} (hy : plainName y.cls = true) (hav : (lg_sl av).length ≤ n)
    (body : ∀ (p : Program) (e : Env) (s : State) (m : MethodId) (args : Array Value) (below : List Frame) (meth : Method) (c : Code) (ls : Array Slot) (A : Nat → Prop), p.tables.exec = Jvm.exec → c.code = b → c.maxLocals = n → meth.sig.returnType = ret → meth.locks = false → s.vm.findClass y.cls = some m.cls → meth.name = y.name → (∀ w ∈ tb, w.before args s = true) → KK G tys s → va_P G vwCl wd s.heap → va_D A wd → va_S A s.heap s.heap [] → (∀ q : Nat, s.heap.size ≤ q → A q) → lv_has ls n (lv_args 0 av) →
      W p l e (rmk fr mc ms) s m args below meth c s.heap [] 0 0 (MQ below (Qc A) args s mc ms A) (F0 m 0 ls [])) : ∀ sz : Nat, Met l y (wk y b n ret) (rmk fr mc ms) (PreD G tys av wd sz) (Qc (va_A wd sz)) mc ms (va_A wd sz) := by
  intro sz
  refine Met.ofW (cc := b) (maxL := n) (ret := ret) hy rfl ?_
  intro p e s m args below meth c s₁ B hml hv
  obtain ⟨rfl, hsz, hP, hK, hD0⟩ := hv
  subst hsz
  have hl := lv_entry av (n := n) hav
  have hts := atoms_spec (ws := wk y b n ret) B.pre
  rw [lg_entry_eq]
  generalize (lg_sl av ++ List.replicate (n - (lg_sl av).length) Slot.unset).toArray = ls at hl ⊢
  exact body p e s m _ below meth c ls _ B.exec B.bytes hml B.returns B.notSynchronized (findClass_of_methodNamed B.named) (name_of_methodNamed B.named B.method).1 (fun w h => hts w (List.mem_cons_of_mem _ h)) hK hP (hD0.self (sz := s.heap.size)) va_S.rf (fun q h => Or.inr h) hl
section KW
variable {p : Program} {l : Launch} {e : Env} {R : Room} {s : State} {m : MethodId} {args : Array Value} {below : List Frame} {meth : Method} {c : Code} {H : Heap} {locs : List Loc} {cells slots : Nat} {Q : State → Prop}
variable {cc : ByteArray} {pc : Nat} {ls : Array Slot} {rest st0 : List Value} {G : va_G} {A : Nat → Prop} {tys : List (ClassId × FieldType)} {ws : va_W} {H0 : Heap} {nL : Nat} {own : String}
variable {C : String} {idx : Nat} {y : MethodName} {b : ByteArray} {n : Nat} {fr : Nat} {o : Nat} {As : List Value} {wd : va_W}
abbrev CF (p : Program) (m : MethodId) (c : Code) (cc : ByteArray) (nL : Nat) (s : State) (args : Array Value) (own : String) : Prop := CallFix p m c cc nL s args tb own
/-- what a virtual call wants of the words and of the callee's name -/
abbrev okV (own C : String) (idx : Nat) (y : MethodName) (b : ByteArray) (n : Nat) (ret : Option FieldType) (k : Nat) : Prop := (Cond.methodLink own idx y ∈ tb ∧ Cond.instanceMethod y ∈ tb ∧ Cond.selects C y y ∈ tb ∧ Cond.initialized C ∈ tb ∧ Cond.code y b n ret ∈ tb) ∧ (y.cls = C ∧ y.cls ≠ "java/lang/invoke/MethodHandle" ∧ y.cls ≠ "java/lang/invoke/VarHandle" ∧ (parseMethodDescriptor y.desc).map (fun d => d.parameters.length) = some k)
abbrev okS (own : String) (idx : Nat) (y : MethodName) (b : ByteArray) (n : Nat) (ret : Option FieldType) (k : Nat) : Prop := (Cond.methodLink own idx y ∈ tb ∧ Cond.static y ∈ tb ∧ Cond.initialized own ∈ tb ∧ Cond.code y b n ret ∈ tb) ∧ (y.cls = own ∧ y.cls ≠ "java/lang/invoke/MethodHandle" ∧ y.cls ≠ "java/lang/invoke/VarHandle" ∧ (parseMethodDescriptor y.desc).map (fun d => d.parameters.length) = some k)
theorem runVP {ret : Option FieldType} {Qc : Nat → Array Value → State → Outcome → State → Prop} (S : CF p m c cc nL s args own) (hM : ∀ sz : Nat, Met l y (wk y b n ret) (rmk fr 0 0) (PreP G tys (.ref o :: As) wd sz) (Qc sz) 0 0 (fun q => sz ≤ q)) (hw : okV own C idx y b n ret As.length) (hR : fr + 1 ≤ R.frames ∧ 8 + (n + 11) + 60 * fr ≤ R.locals) (hK : KK G tys s) (hP : va_P G vwCl ws H) (is : List Nat) (hs : is.filterMap (fun i => ws[i]?) = wd) (q0 : Nat) {ci : Nat} {T : u_T} {N : Nat} {fs : List Value} (he : ws[q0]? = some (o, .inr (ci, fs))) (hc : vwCl[ci]? = some (C, T, N)) (hsz : ls.size = nL) (hst : st0 = As.reverse ++ .ref o :: rest) (hroom : (rest.map fun v => v.category).sum ≤ 8) (hdg : decode cc pc = .ok (.invokevirtual idx, 3)) (hcs : cells ≤ R.cells ∧ slots ≤ R.slots) :
    va_Run p l e R s m args below meth c H locs cells slots 0 0 (F0 m pc ls st0) rest (Qc H.size (Value.ref o :: As).toArray) (fun q => H.size ≤ q) :=
  va_runV (As := As) (rest := rest) S (hM H.size) (cwV As.length S.2.2.2.2 (gkV hw.1.1 hw.1.2.1 hw.1.2.2.1 hw.1.2.2.2.1 hw.1.2.2.2.2) rfl rfl rfl hw.2 hR) ⟨PreP.blind, va_recv hK.1 hP hc he, fun U hU hW => ⟨rfl, by rw [hU], by rw [hU]; exact hP.sub is hs, KK.warm hW hK⟩⟩ rfl rfl hsz hst (lv_room hroom) hdg hcs
theorem runSP {ret : Option FieldType} {Qc : Nat → Array Value → State → Outcome → State → Prop} (S : CF p m c cc nL s args own) (hM : ∀ sz : Nat, Met l y (wk y b n ret) (rmk fr 0 0) (PreP G tys As wd sz) (Qc sz) 0 0 (fun q => sz ≤ q)) (hw : okS own idx y b n ret As.length) (hR : fr + 1 ≤ R.frames ∧ 8 + (n + 11) + 60 * fr ≤ R.locals) (hK : KK G tys s) (hP : va_P G vwCl ws H) (is : List Nat) (hs : is.filterMap (fun i => ws[i]?) = wd) (hsz : ls.size = nL) (hst : st0 = As.reverse ++ rest) (hroom : (rest.map fun v => v.category).sum ≤ 8) (hdg : decode cc pc = .ok (.invokestatic idx, 3)) (hcs : cells ≤ R.cells ∧ slots ≤ R.slots) :
    va_Run p l e R s m args below meth c H locs cells slots 0 0 (F0 m pc ls st0) rest (Qc H.size As.toArray) (fun q => H.size ≤ q) :=
  va_runS (As := As) (rest := rest) S (hM H.size) (cwS As.length S.2.2.2.2 (gkS hw.1.1 hw.1.2.1 hw.1.2.2.1 hw.1.2.2.2) rfl rfl rfl hw.2 hR) ⟨PreP.blind, fun U hU hW => ⟨rfl, by rw [hU], by rw [hU]; exact hP.sub is hs, KK.warm hW hK⟩⟩ rfl rfl hsz hst (lv_room hroom) hdg hcs
/-- behind a call that changes nothing: the whole world is as it was -/
theorem behI {r : Int32} {a : Array Value} (hr : va_Run p l e R s m args below meth c H locs cells slots 0 0 (F0 m pc ls st0) rest (QPi r H.size a) (fun q => H.size ≤ q)) (hP : va_P G vwCl ws H) (hS : va_S A H0 H locs) (hA : ∀ q : Nat, H0.size ≤ q → A q)
    (kk : ∀ (H1 : Heap) (locs1 : List Loc), va_P G vwCl ws H1 → va_S A H0 H1 locs1 → W p l e R s m args below meth c H1 locs1 cells slots Q (F0 m (pc + 3) ls (.int r :: rest))) : W p l e R s m args below meth c H locs cells slots Q (F0 m pc ls st0) := by
  refine va_calli (A1 := fun q => H.size ≤ q) hr hS (fun q h1 h2 => absurd h1 (Nat.not_lt.mpr h2)) (fun q h => hA q (Nat.le_trans hS.1 h)) (fun r' u t H1 locs1 ht' hvm hw' hB hz hk hS' => ?_)
  subst hw'
  exact kk H1 locs1 (hP.kept (fun k q hq => hk q.1 ((hP k q hq).lt) (Nat.not_le.mpr (hP k q hq).lt))) hS'
theorem behL {r : Int64} {a : Array Value} (hr : va_Run p l e R s m args below meth c H locs cells slots 0 0 (F0 m pc ls st0) rest (QPl r H.size a) (fun q => H.size ≤ q)) (hP : va_P G vwCl ws H) (hS : va_S A H0 H locs) (hA : ∀ q : Nat, H0.size ≤ q → A q)
    (kk : ∀ (H1 : Heap) (locs1 : List Loc), va_P G vwCl ws H1 → va_S A H0 H1 locs1 → W p l e R s m args below meth c H1 locs1 cells slots Q (F0 m (pc + 3) ls (.long r :: rest))) : W p l e R s m args below meth c H locs cells slots Q (F0 m pc ls st0) := by
  refine va_calll (A1 := fun q => H.size ≤ q) hr hS (fun q h1 h2 => absurd h1 (Nat.not_lt.mpr h2)) (fun q h => hA q (Nat.le_trans hS.1 h)) (fun r' u t H1 locs1 ht' hvm hw' hB hz hk hS' => ?_)
  subst hw'
  exact kk H1 locs1 (hP.kept (fun k q hq => hk q.1 ((hP k q hq).lt) (Nat.not_le.mpr (hP k q hq).lt))) hS'
/-- the returns of contracts that change nothing -/
theorem retPi {r v : Int32} {ls : Array Slot} (hx : p.tables.exec = Jvm.exec) (hb : c.code = cc) (hr : meth.sig.returnType = some .int) (hlk : meth.locks = false) (hS : va_S (fun q => s.heap.size ≤ q) s.heap H locs) (hdg : decode cc pc = .ok (.ireturn, 1)) (e9 : v = r) : W p l e R s m args below meth c H locs 0 0 (MQ below (QPi r s.heap.size) args s 0 0 (fun q => s.heap.size ≤ q)) (F0 m pc ls [.int v]) :=
  W.iret hx hb hr (fun t ht hW => ⟨⟨v, (), rfl, e9, trivial⟩, hS.F ht⟩) hS.2.2 hdg hlk
theorem retPz {r v : Int32} {ls : Array Slot} (hx : p.tables.exec = Jvm.exec) (hb : c.code = cc) (hr : meth.sig.returnType = some .boolean) (hlk : meth.locks = false) (hS : va_S (fun q => s.heap.size ≤ q) s.heap H locs) (hdg : decode cc pc = .ok (.ireturn, 1)) (hn : narrow .boolean (.int v) = .int v) (e9 : v = r) : W p l e R s m args below meth c H locs 0 0 (MQ below (QPi r s.heap.size) args s 0 0 (fun q => s.heap.size ≤ q)) (F0 m pc ls [.int v]) :=
  W.zret hx hb hr hn (fun t ht hW => ⟨⟨v, (), rfl, e9, trivial⟩, hS.F ht⟩) hS.2.2 hdg hlk
theorem retPl {r v : Int64} {ls : Array Slot} (hx : p.tables.exec = Jvm.exec) (hb : c.code = cc) (hr : meth.sig.returnType = some .long) (hlk : meth.locks = false) (hS : va_S (fun q => s.heap.size ≤ q) s.heap H locs) (hdg : decode cc pc = .ok (.lreturn, 1)) (e9 : v = r) : W p l e R s m args below meth c H locs 0 0 (MQ below (QPl r s.heap.size) args s 0 0 (fun q => s.heap.size ≤ q)) (F0 m pc ls [.long v]) :=
  W.lret hx hb hr (fun t ht hW => ⟨⟨v, (), rfl, e9, trivial⟩, hS.F ht⟩) hS.2.2 hdg hlk
/-- a field is read -/
theorem getF {T : u_T} {N ci : Nat} {a : Nat} (hx : p.tables.exec = Jvm.exec) (hb : c.code = cc) (ht : ∀ w ∈ tb, w.before args s = true) (hown : s.vm.findClass own = some m.cls) (hK : KK G tys s) (hP : va_P G vwCl ws H) (hin : ∀ w ∈ u_ws C T N, w ∈ tb) (q0 k : Nat) {fs : List Value} (he : ws[q0]? = some (a, .inr (ci, fs))) (hc : vwCl[ci]? = some (C, T, N)) (hk : k < N) (hw : Cond.fieldLink own idx (T k).1 (T k).2.1 (T k).2.2.1 ∈ tb) {v : Value} (hv : fs[k]? = some v) (hdg : decode cc pc = .ok (.getfield idx, 3))
    (kk : W p l e R s m args below meth c H locs cells slots Q (F0 m (pc + 3) ls (v :: rest))) : W p l e R s m args below meth c H locs cells slots Q (F0 m pc ls (.ref a :: rest)) :=
  va_get hx hb ht hin hown hK.1 hP q0 he hc k hk (ht _ hw) (fun _ h9 => h9) hv hdg kk
end KW
end
section
abbrev TY (cs : Nat → ClassId) : List (ClassId × FieldType) := [(cs 0, .int), (cs 1, .byte), (cs 2, .long), (cs 3, .boolean), (cs 4, .object "CallForBrown$State"), (cs 5, .object "CallForBrown$Row"), (cs 6, .object "CallForBrown$Parts")]
abbrev xc0 (cs : Nat → ClassId) (h : Nat) (q : Nat → Nat) : Nat × va_E := (h, .inr (10, [.ref (q 1), .ref (q 2), .ref (q 4), .ref (q 12), .ref (q 22), .ref (q 53), .ref (q 62), .ref (q 64), .ref (q 65), .ref (q 66), .ref (q 67), .ref (q 68)]))
abbrev xc1 (cs : Nat → ClassId) (h : Nat) (q : Nat → Nat) : Nat × va_E := (q 1, .inr (6, [.ref (q 2), .int 0, .int 0, .int 0, .int 0, .int 0, .int (-1)]))
abbrev xc2 (cs : Nat → ClassId) (h : Nat) (q : Nat → Nat) : Nat × va_E := (q 2, .inr (9, [.ref (q 3), .int 0]))
abbrev xc3 (cs : Nat → ClassId) (h : Nat) (q : Nat → Nat) : Nat × va_E := (q 3, .inl (cs 1, 900, .inl (fun _ => 0)))
abbrev xc4 (cs : Nat → ClassId) (h : Nat) (q : Nat → Nat) : Nat × va_E := (q 4, .inr (3, [.int 0, .int 0, .int 0, .int 0, .int 0, .int 0, .int 0, .ref (q 5), .ref (q 6), .ref (q 7), .ref (q 8), .ref (q 9), .ref (q 10), .ref (q 11)]))
abbrev xc5 (cs : Nat → ClassId) (h : Nat) (q : Nat → Nat) : Nat × va_E := (q 5, .inl (cs 0, 7, .inl (fun _ => 0)))
abbrev xc6 (cs : Nat → ClassId) (h : Nat) (q : Nat → Nat) : Nat × va_E := (q 6, .inl (cs 0, 7, .inl (fun _ => 0)))
abbrev xc7 (cs : Nat → ClassId) (h : Nat) (q : Nat → Nat) : Nat × va_E := (q 7, .inl (cs 0, 7, .inl (fun _ => 0)))
abbrev xc8 (cs : Nat → ClassId) (h : Nat) (q : Nat → Nat) : Nat × va_E := (q 8, .inl (cs 0, 7, .inl (fun _ => 0)))
abbrev xc9 (cs : Nat → ClassId) (h : Nat) (q : Nat → Nat) : Nat × va_E := (q 9, .inl (cs 0, 6, .inl (fun _ => 0)))
abbrev xc10 (cs : Nat → ClassId) (h : Nat) (q : Nat → Nat) : Nat × va_E := (q 10, .inl (cs 0, 6, .inl (fun _ => 0)))
abbrev xc11 (cs : Nat → ClassId) (h : Nat) (q : Nat → Nat) : Nat × va_E := (q 11, .inl (cs 0, 36, .inl (fun _ => 0)))
abbrev xc12 (cs : Nat → ClassId) (h : Nat) (q : Nat → Nat) : Nat × va_E := (q 12, .inr (8, [.ref (q 13), .ref (q 21), .int 0, .int 0]))
abbrev xc13 (cs : Nat → ClassId) (h : Nat) (q : Nat → Nat) : Nat × va_E := (q 13, .inr (3, [.int 0, .int 0, .int 0, .int 0, .int 0, .int 0, .int 0, .ref (q 14), .ref (q 15), .ref (q 16), .ref (q 17), .ref (q 18), .ref (q 19), .ref (q 20)]))
abbrev xc14 (cs : Nat → ClassId) (h : Nat) (q : Nat → Nat) : Nat × va_E := (q 14, .inl (cs 0, 7, .inl (fun _ => 0)))
abbrev xc15 (cs : Nat → ClassId) (h : Nat) (q : Nat → Nat) : Nat × va_E := (q 15, .inl (cs 0, 7, .inl (fun _ => 0)))
abbrev xc16 (cs : Nat → ClassId) (h : Nat) (q : Nat → Nat) : Nat × va_E := (q 16, .inl (cs 0, 7, .inl (fun _ => 0)))
abbrev xc17 (cs : Nat → ClassId) (h : Nat) (q : Nat → Nat) : Nat × va_E := (q 17, .inl (cs 0, 7, .inl (fun _ => 0)))
abbrev xc18 (cs : Nat → ClassId) (h : Nat) (q : Nat → Nat) : Nat × va_E := (q 18, .inl (cs 0, 6, .inl (fun _ => 0)))
abbrev xc19 (cs : Nat → ClassId) (h : Nat) (q : Nat → Nat) : Nat × va_E := (q 19, .inl (cs 0, 6, .inl (fun _ => 0)))
abbrev xc20 (cs : Nat → ClassId) (h : Nat) (q : Nat → Nat) : Nat × va_E := (q 20, .inl (cs 0, 36, .inl (fun _ => 0)))
abbrev xc21 (cs : Nat → ClassId) (h : Nat) (q : Nat → Nat) : Nat × va_E := (q 21, .inl (cs 0, 60, .inl (fun _ => 0)))
abbrev xc22 (cs : Nat → ClassId) (h : Nat) (q : Nat → Nat) : Nat × va_E := (q 22, .inl (cs 4, 3, .inr (.inr (.inr (.inr (va_up (va_up (va_up (fun _ => none) 0 (some (q 23))) 1 (some (q 33))) 2 (some (q 43))))))))
abbrev xc23 (cs : Nat → ClassId) (h : Nat) (q : Nat → Nat) : Nat × va_E := (q 23, .inr (8, [.ref (q 24), .ref (q 32), .int 0, .int 0]))
abbrev xc24 (cs : Nat → ClassId) (h : Nat) (q : Nat → Nat) : Nat × va_E := (q 24, .inr (3, [.int 0, .int 0, .int 0, .int 0, .int 0, .int 0, .int 0, .ref (q 25), .ref (q 26), .ref (q 27), .ref (q 28), .ref (q 29), .ref (q 30), .ref (q 31)]))
abbrev xc25 (cs : Nat → ClassId) (h : Nat) (q : Nat → Nat) : Nat × va_E := (q 25, .inl (cs 0, 7, .inl (fun _ => 0)))
abbrev xc26 (cs : Nat → ClassId) (h : Nat) (q : Nat → Nat) : Nat × va_E := (q 26, .inl (cs 0, 7, .inl (fun _ => 0)))
abbrev xc27 (cs : Nat → ClassId) (h : Nat) (q : Nat → Nat) : Nat × va_E := (q 27, .inl (cs 0, 7, .inl (fun _ => 0)))
abbrev xc28 (cs : Nat → ClassId) (h : Nat) (q : Nat → Nat) : Nat × va_E := (q 28, .inl (cs 0, 7, .inl (fun _ => 0)))
abbrev xc29 (cs : Nat → ClassId) (h : Nat) (q : Nat → Nat) : Nat × va_E := (q 29, .inl (cs 0, 6, .inl (fun _ => 0)))
abbrev xc30 (cs : Nat → ClassId) (h : Nat) (q : Nat → Nat) : Nat × va_E := (q 30, .inl (cs 0, 6, .inl (fun _ => 0)))
abbrev xc31 (cs : Nat → ClassId) (h : Nat) (q : Nat → Nat) : Nat × va_E := (q 31, .inl (cs 0, 36, .inl (fun _ => 0)))
abbrev xc32 (cs : Nat → ClassId) (h : Nat) (q : Nat → Nat) : Nat × va_E := (q 32, .inl (cs 0, 60, .inl (fun _ => 0)))
abbrev xc33 (cs : Nat → ClassId) (h : Nat) (q : Nat → Nat) : Nat × va_E := (q 33, .inr (8, [.ref (q 34), .ref (q 42), .int 0, .int 0]))
abbrev xc34 (cs : Nat → ClassId) (h : Nat) (q : Nat → Nat) : Nat × va_E := (q 34, .inr (3, [.int 0, .int 0, .int 0, .int 0, .int 0, .int 0, .int 0, .ref (q 35), .ref (q 36), .ref (q 37), .ref (q 38), .ref (q 39), .ref (q 40), .ref (q 41)]))
abbrev xc35 (cs : Nat → ClassId) (h : Nat) (q : Nat → Nat) : Nat × va_E := (q 35, .inl (cs 0, 7, .inl (fun _ => 0)))
abbrev xc36 (cs : Nat → ClassId) (h : Nat) (q : Nat → Nat) : Nat × va_E := (q 36, .inl (cs 0, 7, .inl (fun _ => 0)))
abbrev xc37 (cs : Nat → ClassId) (h : Nat) (q : Nat → Nat) : Nat × va_E := (q 37, .inl (cs 0, 7, .inl (fun _ => 0)))
abbrev xc38 (cs : Nat → ClassId) (h : Nat) (q : Nat → Nat) : Nat × va_E := (q 38, .inl (cs 0, 7, .inl (fun _ => 0)))
abbrev xc39 (cs : Nat → ClassId) (h : Nat) (q : Nat → Nat) : Nat × va_E := (q 39, .inl (cs 0, 6, .inl (fun _ => 0)))
abbrev xc40 (cs : Nat → ClassId) (h : Nat) (q : Nat → Nat) : Nat × va_E := (q 40, .inl (cs 0, 6, .inl (fun _ => 0)))
abbrev xc41 (cs : Nat → ClassId) (h : Nat) (q : Nat → Nat) : Nat × va_E := (q 41, .inl (cs 0, 36, .inl (fun _ => 0)))
abbrev xc42 (cs : Nat → ClassId) (h : Nat) (q : Nat → Nat) : Nat × va_E := (q 42, .inl (cs 0, 60, .inl (fun _ => 0)))
abbrev xc43 (cs : Nat → ClassId) (h : Nat) (q : Nat → Nat) : Nat × va_E := (q 43, .inr (8, [.ref (q 44), .ref (q 52), .int 0, .int 0]))
abbrev xc44 (cs : Nat → ClassId) (h : Nat) (q : Nat → Nat) : Nat × va_E := (q 44, .inr (3, [.int 0, .int 0, .int 0, .int 0, .int 0, .int 0, .int 0, .ref (q 45), .ref (q 46), .ref (q 47), .ref (q 48), .ref (q 49), .ref (q 50), .ref (q 51)]))
abbrev xc45 (cs : Nat → ClassId) (h : Nat) (q : Nat → Nat) : Nat × va_E := (q 45, .inl (cs 0, 7, .inl (fun _ => 0)))
abbrev xc46 (cs : Nat → ClassId) (h : Nat) (q : Nat → Nat) : Nat × va_E := (q 46, .inl (cs 0, 7, .inl (fun _ => 0)))
abbrev xc47 (cs : Nat → ClassId) (h : Nat) (q : Nat → Nat) : Nat × va_E := (q 47, .inl (cs 0, 7, .inl (fun _ => 0)))
abbrev xc48 (cs : Nat → ClassId) (h : Nat) (q : Nat → Nat) : Nat × va_E := (q 48, .inl (cs 0, 7, .inl (fun _ => 0)))
abbrev xc49 (cs : Nat → ClassId) (h : Nat) (q : Nat → Nat) : Nat × va_E := (q 49, .inl (cs 0, 6, .inl (fun _ => 0)))
abbrev xc50 (cs : Nat → ClassId) (h : Nat) (q : Nat → Nat) : Nat × va_E := (q 50, .inl (cs 0, 6, .inl (fun _ => 0)))
abbrev xc51 (cs : Nat → ClassId) (h : Nat) (q : Nat → Nat) : Nat × va_E := (q 51, .inl (cs 0, 36, .inl (fun _ => 0)))
abbrev xc52 (cs : Nat → ClassId) (h : Nat) (q : Nat → Nat) : Nat × va_E := (q 52, .inl (cs 0, 60, .inl (fun _ => 0)))
abbrev xc53 (cs : Nat → ClassId) (h : Nat) (q : Nat → Nat) : Nat × va_E := (q 53, .inl (cs 5, 4, .inr (.inr (.inr (.inr (va_up (va_up (va_up (va_up (fun _ => none) 0 (some (q 54))) 1 (some (q 56))) 2 (some (q 58))) 3 (some (q 60))))))))
abbrev xc54 (cs : Nat → ClassId) (h : Nat) (q : Nat → Nat) : Nat × va_E := (q 54, .inr (7, [.ref (q 55), .int 0, .int 0, .int 0]))
abbrev xc55 (cs : Nat → ClassId) (h : Nat) (q : Nat → Nat) : Nat × va_E := (q 55, .inl (cs 2, 60, .inr (.inl (fun _ => 0))))
abbrev xc56 (cs : Nat → ClassId) (h : Nat) (q : Nat → Nat) : Nat × va_E := (q 56, .inr (7, [.ref (q 57), .int 0, .int 0, .int 0]))
abbrev xc57 (cs : Nat → ClassId) (h : Nat) (q : Nat → Nat) : Nat × va_E := (q 57, .inl (cs 2, 60, .inr (.inl (fun _ => 0))))
abbrev xc58 (cs : Nat → ClassId) (h : Nat) (q : Nat → Nat) : Nat × va_E := (q 58, .inr (7, [.ref (q 59), .int 0, .int 0, .int 0]))
abbrev xc59 (cs : Nat → ClassId) (h : Nat) (q : Nat → Nat) : Nat × va_E := (q 59, .inl (cs 2, 60, .inr (.inl (fun _ => 0))))
abbrev xc60 (cs : Nat → ClassId) (h : Nat) (q : Nat → Nat) : Nat × va_E := (q 60, .inr (7, [.ref (q 61), .int 0, .int 0, .int 0]))
abbrev xc61 (cs : Nat → ClassId) (h : Nat) (q : Nat → Nat) : Nat × va_E := (q 61, .inl (cs 2, 60, .inr (.inl (fun _ => 0))))
abbrev xc62 (cs : Nat → ClassId) (h : Nat) (q : Nat → Nat) : Nat × va_E := (q 62, .inr (5, [.ref (q 63), .ref (q 69), .int 0, .int 0]))
abbrev xc63 (cs : Nat → ClassId) (h : Nat) (q : Nat → Nat) : Nat × va_E := (q 63, .inl (cs 0, 7, .inl (fun _ => 0)))
abbrev mc0 (cs : Nat → ClassId) (h : Nat) (q : Nat → Nat) : Nat × va_E := (h, .inr (11, [.int 0, .ref (q 1), .ref (q 2), .ref (q 3), .ref (q 4), .int 0, .ref (q 6), .int 0, .int 0, .int 0, .int 0, .int 0, .int 0, .int (-1), .ref (q 14), .ref (q 15), .ref (q 16), .int 0, .int 0, .ref (q 19), .ref (q 20), .ref (q 21), .int 0, .ref (q 23), .ref (q 24), .ref (q 25), .int 0, .ref (q 27), .long 0, .int 0, .int 0, .ref (q 31), .ref (q 32), .ref (q 33), .ref (q 34)]))
abbrev mc1 (cs : Nat → ClassId) (h : Nat) (q : Nat → Nat) : Nat × va_E := (q 1, .inl (cs 0, 144, .inl (fun _ => 0)))
abbrev mc2 (cs : Nat → ClassId) (h : Nat) (q : Nat → Nat) : Nat × va_E := (q 2, .inl (cs 0, 432, .inl (fun _ => 0)))
abbrev mc3 (cs : Nat → ClassId) (h : Nat) (q : Nat → Nat) : Nat × va_E := (q 3, .inl (cs 3, 3, .inl (fun _ => 0)))
abbrev mc4 (cs : Nat → ClassId) (h : Nat) (q : Nat → Nat) : Nat × va_E := (q 4, .inl (cs 1, 900, .inl (fun _ => 0)))
abbrev mc6 (cs : Nat → ClassId) (h : Nat) (q : Nat → Nat) : Nat × va_E := (q 6, .inl (cs 0, 5, .inl (fun _ => 0)))
abbrev mc14 (cs : Nat → ClassId) (h : Nat) (q : Nat → Nat) : Nat × va_E := (q 14, .inl (cs 0, 144, .inl (fun _ => 0)))
abbrev mc15 (cs : Nat → ClassId) (h : Nat) (q : Nat → Nat) : Nat × va_E := (q 15, .inl (cs 0, 7, .inl (fun _ => 0)))
abbrev mc16 (cs : Nat → ClassId) (h : Nat) (q : Nat → Nat) : Nat × va_E := (q 16, .inl (cs 0, 7, .inl (fun _ => 0)))
abbrev mc19 (cs : Nat → ClassId) (h : Nat) (q : Nat → Nat) : Nat × va_E := (q 19, .inl (cs 0, 5, .inl (fun _ => 0)))
abbrev mc20 (cs : Nat → ClassId) (h : Nat) (q : Nat → Nat) : Nat × va_E := (q 20, .inl (cs 0, 5, .inl (fun _ => 0)))
abbrev mc21 (cs : Nat → ClassId) (h : Nat) (q : Nat → Nat) : Nat × va_E := (q 21, .inl (cs 0, 7, .inl (fun _ => 0)))
abbrev mc23 (cs : Nat → ClassId) (h : Nat) (q : Nat → Nat) : Nat × va_E := (q 23, .inl (cs 0, 6272, .inl (fun _ => 0)))
abbrev mc24 (cs : Nat → ClassId) (h : Nat) (q : Nat → Nat) : Nat × va_E := (q 24, .inl (cs 0, 6272, .inl (fun _ => 0)))
abbrev mc25 (cs : Nat → ClassId) (h : Nat) (q : Nat → Nat) : Nat × va_E := (q 25, .inl (cs 0, 6272, .inl (fun _ => 0)))
abbrev mc27 (cs : Nat → ClassId) (h : Nat) (q : Nat → Nat) : Nat × va_E := (q 27, .inl (cs 0, 64, .inl (fun _ => 0)))
abbrev mc31 (cs : Nat → ClassId) (h : Nat) (q : Nat → Nat) : Nat × va_E := (q 31, .inl (cs 0, 4, .inl (upd (upd (upd (upd (fun _ => 0) 0 (-1)) 1 (-1)) 2 (-1)) 3 (-1))))
abbrev mc32 (cs : Nat → ClassId) (h : Nat) (q : Nat → Nat) : Nat × va_E := (q 32, .inl (cs 0, 4, .inl (fun _ => 0)))
abbrev mc33 (cs : Nat → ClassId) (h : Nat) (q : Nat → Nat) : Nat × va_E := (q 33, .inl (cs 2, 240, .inr (.inl (fun _ => 0))))
abbrev mc34 (cs : Nat → ClassId) (h : Nat) (q : Nat → Nat) : Nat × va_E := (q 34, .inl (cs 2, 60, .inr (.inl (fun _ => 0))))
theorem ltT {a b : Int32} (h : a < b) : a.toInt < b.toInt := Int32.lt_iff_toInt_lt.mp h
theorem leT {a b : Int32} (h : a ≤ b) : a.toInt ≤ b.toInt := Int32.le_iff_toInt_le.mp h
theorem nltT {a b : Int32} (h : ¬ a < b) : b.toInt ≤ a.toInt := Int.not_lt.mp (fun q => h (Int32.lt_iff_toInt_lt.mpr q))
theorem nleT {a b : Int32} (h : ¬ a ≤ b) : b.toInt < a.toInt := Int.not_le.mp (fun q => h (Int32.le_iff_toInt_le.mpr q))
theorem eqT {a b : Int32} (h : a = b) : a.toInt = b.toInt := congrArg Int32.toInt h
theorem neT {a b : Int32} (h : ¬ a = b) : ¬ a.toInt = b.toInt := fun q => h (Int32.toInt_inj.mp q)
/-- whether a long lies between two -/
def inF (v lo hi : Int64) : Int32 := if lo ≤ v ∧ v ≤ hi then 1 else 0
theorem inF_a {v lo hi : Int64} (h : lg_cmp v lo < 0) : inF v lo hi = 0 := if_neg (fun q => absurd ((lg_cmp_lt v lo).mp h) (Int64.not_lt.mpr q.1))
theorem inF_b {v lo hi : Int64} (h : 0 < lg_cmp v hi) : inF v lo hi = 0 := if_neg (fun q => absurd ((lg_cmp_gt v hi).mp h) (Int64.not_lt.mpr q.2))
theorem inF_c {v lo hi : Int64} (h1 : ¬ lg_cmp v lo < 0) (h2 : ¬ 0 < lg_cmp v hi) : inF v lo hi = 1 := if_pos ⟨Int64.not_lt.mp (fun q => h1 ((lg_cmp_lt v lo).mpr q)), Int64.not_lt.mp (fun q => h2 ((lg_cmp_gt v hi).mpr q))⟩
theorem inF_y {a : Int32} {lo hi : Int64} (h : lo.toInt ≤ a.toInt ∧ a.toInt ≤ hi.toInt) : inF a.toInt64 lo hi = 1 := if_pos ⟨Int64.le_iff_toInt_le.mpr (by rw [Int32.toInt_toInt64]; exact h.1), Int64.le_iff_toInt_le.mpr (by rw [Int32.toInt_toInt64]; exact h.2)⟩
theorem inF_n {a : Int32} {lo hi : Int64} (h : a.toInt < lo.toInt ∨ hi.toInt < a.toInt) : inF a.toInt64 lo hi = 0 := if_neg (fun q => by
  have q1 := Int64.le_iff_toInt_le.mp q.1
  have q2 := Int64.le_iff_toInt_le.mp q.2
  rw [Int32.toInt_toInt64] at q1 q2
  omega)
theorem inF_o {v lo hi : Int64} (h : hi.toInt < lo.toInt) : inF v lo hi = 0 := if_neg (fun q => by
  have q1 := Int64.le_iff_toInt_le.mp q.1
  have q2 := Int64.le_iff_toInt_le.mp q.2
  omega)
theorem inF_z (v lo hi : Int64) : narrow .boolean (.int (inF v lo hi)) = .int (inF v lo hi) := by unfold inF; split <;> rfl
/-- whether an int lies between two -/
def inG (v lo hi : Int32) : Int32 := if lo ≤ v ∧ v ≤ hi then 1 else 0
theorem inG_a {v lo hi : Int32} (h : v < lo) : inG v lo hi = 0 := if_neg (fun q => absurd h (Int32.not_lt.mpr q.1))
theorem inG_b {v lo hi : Int32} (h : hi < v) : inG v lo hi = 0 := if_neg (fun q => absurd h (Int32.not_lt.mpr q.2))
theorem inG_c {v lo hi : Int32} (h1 : ¬ v < lo) (h2 : ¬ hi < v) : inG v lo hi = 1 := if_pos ⟨Int32.not_lt.mp h1, Int32.not_lt.mp h2⟩
theorem cs3 (x : Int32) : x < 0 ∨ 3 ≤ x ∨ x = 0 ∨ x = 1 ∨ x = 2 := by
  rcases pk_ix x (n := 3) (by decide) with h | h | ⟨j, hj, rfl⟩
  · exact Or.inl h
  · exact Or.inr (Or.inl h)
  · rcases (show j = 0 ∨ j = 1 ∨ j = 2 by omega) with rfl | rfl | rfl <;> simp [nI]
theorem cs4 (x : Int32) : x < 0 ∨ 4 ≤ x ∨ x = 0 ∨ x = 1 ∨ x = 2 ∨ x = 3 := by
  rcases pk_ix x (n := 4) (by decide) with h | h | ⟨j, hj, rfl⟩
  · exact Or.inl h
  · exact Or.inr (Or.inl h)
  · rcases (show j = 0 ∨ j = 1 ∨ j = 2 ∨ j = 3 by omega) with rfl | rfl | rfl | rfl <;> simp [nI]
theorem cs8 (x : Int32) : x < 0 ∨ 8 ≤ x ∨ x = 0 ∨ x = 1 ∨ x = 2 ∨ x = 3 ∨ x = 4 ∨ x = 5 ∨ x = 6 ∨ x = 7 := by
  rcases pk_ix x (n := 8) (by decide) with h | h | ⟨j, hj, rfl⟩
  · exact Or.inl h
  · exact Or.inr (Or.inl h)
  · rcases (show j = 0 ∨ j = 1 ∨ j = 2 ∨ j = 3 ∨ j = 4 ∨ j = 5 ∨ j = 6 ∨ j = 7 by omega) with rfl | rfl | rfl | rfl | rfl | rfl | rfl | rfl <;> simp [nI]
/-- fault of a fresh object -/
def spf (x : Int32) : Int32 := if x = 0 then 0 else -1
theorem csf (x : Int32) : x = 0 ∨ x = 1 ∨ (¬ x = 0 ∧ ¬ x = 1) := by
  by_cases h : x = 0
  · exact Or.inl h
  · by_cases h1 : x = 1
    · exact Or.inr (Or.inl h1)
    · exact Or.inr (Or.inr ⟨h, h1⟩)
/-- r for 0 .. k - 1, else d -/
def spk (k : Int32) (x r d : Int32) : Int32 := if x < 0 then d else if k ≤ x then d else r
theorem spk_lo {k x r d : Int32} (h : x < 0) : spk k x r d = d := if_pos h
theorem spk_hi {k x r d : Int32} (hk : 0 ≤ k) (h : k ≤ x) : spk k x r d = d := by
  unfold spk
  rw [if_neg (Int32.not_lt.mpr (Int32.le_trans hk h)), if_pos h]
theorem iTX0 : ∀ w ∈ u_ws RX0 TX0 3, w ∈ tb := by decide +kernel
theorem iTX1 : ∀ w ∈ u_ws RX1 TX1 7, w ∈ tb := by decide +kernel
theorem iTX2 : ∀ w ∈ u_ws RX2 TX2 3, w ∈ tb := by decide +kernel
theorem iTX3 : ∀ w ∈ u_ws RX3 TX3 14, w ∈ tb := by decide +kernel
theorem iTX4 : ∀ w ∈ u_ws RX4 TX4 1, w ∈ tb := by decide +kernel
theorem iTX5 : ∀ w ∈ u_ws RX5 TX5 4, w ∈ tb := by decide +kernel
theorem iTX6 : ∀ w ∈ u_ws RX6 TX6 7, w ∈ tb := by decide +kernel
theorem iTX7 : ∀ w ∈ u_ws RX7 TX7 4, w ∈ tb := by decide +kernel
theorem iTX8 : ∀ w ∈ u_ws RX8 TX8 4, w ∈ tb := by decide +kernel
theorem iTX9 : ∀ w ∈ u_ws RX9 TX9 2, w ∈ tb := by decide +kernel
theorem iTX10 : ∀ w ∈ u_ws RX10 TX10 12, w ∈ tb := by decide +kernel
theorem iTX11 : ∀ w ∈ u_ws RX11 TX11 35, w ∈ tb := by decide +kernel
end
section
theorem fl_RX3_49 : Cond.fieldLink RX3 49 (TX3 5).1 (TX3 5).2.1 (TX3 5).2.2.1 ∈ tb := tb_t (List.mem_of_getElem? (i := 100) (by decide +kernel)) (by decide +kernel)
theorem fl_RX10_31 : Cond.fieldLink RX10 31 (TX10 3).1 (TX10 3).2.1 (TX10 3).2.2.1 ∈ tb := tb_t (List.mem_of_getElem? (i := 311) (by decide +kernel)) (by decide +kernel)
theorem fl_RX10_98 : Cond.fieldLink RX10 98 (TX8 0).1 (TX8 0).2.1 (TX8 0).2.2.1 ∈ tb := tb_t (List.mem_of_getElem? (i := 168) (by decide +kernel)) (by decide +kernel)
theorem fl_RX10_111 : Cond.fieldLink RX10 111 (TX3 0).1 (TX3 0).2.1 (TX3 0).2.2.1 ∈ tb := tb_t (List.mem_of_getElem? (i := 84) (by decide +kernel)) (by decide +kernel)
theorem fl_RX10_283 : Cond.fieldLink RX10 283 (TX3 6).1 (TX3 6).2.1 (TX3 6).2.2.1 ∈ tb := tb_t (List.mem_of_getElem? (i := 109) (by decide +kernel)) (by decide +kernel)
theorem fl_RX10_159 : Cond.fieldLink RX10 159 (TX3 5).1 (TX3 5).2.1 (TX3 5).2.2.1 ∈ tb := tb_t (List.mem_of_getElem? (i := 105) (by decide +kernel)) (by decide +kernel)
theorem fl_RX10_41 : Cond.fieldLink RX10 41 (TX10 5).1 (TX10 5).2.1 (TX10 5).2.2.1 ∈ tb := tb_t (List.mem_of_getElem? (i := 313) (by decide +kernel)) (by decide +kernel)
theorem fl_RX10_354 : Cond.fieldLink RX10 354 (TX7 1).1 (TX7 1).2.1 (TX7 1).2.2.1 ∈ tb := tb_t (List.mem_of_getElem? (i := 293) (by decide +kernel)) (by decide +kernel)
theorem fl_RX10_20 : Cond.fieldLink RX10 20 (TX10 1).1 (TX10 1).2.1 (TX10 1).2.2.1 ∈ tb := tb_t (List.mem_of_getElem? (i := 309) (by decide +kernel)) (by decide +kernel)
theorem fl_RX10_84 : Cond.fieldLink RX10 84 (TX9 1).1 (TX9 1).2.1 (TX9 1).2.2.1 ∈ tb := tb_t (List.mem_of_getElem? (i := 42) (by decide +kernel)) (by decide +kernel)
theorem fl_RX10_105 : Cond.fieldLink RX10 105 (TX8 2).1 (TX8 2).2.1 (TX8 2).2.2.1 ∈ tb := tb_t (List.mem_of_getElem? (i := 172) (by decide +kernel)) (by decide +kernel)
theorem fl_RX10_35 : Cond.fieldLink RX10 35 (TX10 4).1 (TX10 4).2.1 (TX10 4).2.2.1 ∈ tb := tb_t (List.mem_of_getElem? (i := 312) (by decide +kernel)) (by decide +kernel)
theorem fl_RX10_344 : Cond.fieldLink RX10 344 (TX8 3).1 (TX8 3).2.1 (TX8 3).2.2.1 ∈ tb := tb_t (List.mem_of_getElem? (i := 173) (by decide +kernel)) (by decide +kernel)
theorem fl_RX10_10 : Cond.fieldLink RX10 10 (TX10 0).1 (TX10 0).2.1 (TX10 0).2.2.1 ∈ tb := tb_t (List.mem_of_getElem? (i := 308) (by decide +kernel)) (by decide +kernel)
theorem fl_RX10_114 : Cond.fieldLink RX10 114 (TX6 5).1 (TX6 5).2.1 (TX6 5).2.2.1 ∈ tb := tb_t (List.mem_of_getElem? (i := 58) (by decide +kernel)) (by decide +kernel)
theorem fl_RX10_117 : Cond.fieldLink RX10 117 (TX6 6).1 (TX6 6).2.1 (TX6 6).2.2.1 ∈ tb := tb_t (List.mem_of_getElem? (i := 60) (by decide +kernel)) (by decide +kernel)
theorem fl_RX11_9 : Cond.fieldLink RX11 9 (TX11 1).1 (TX11 1).2.1 (TX11 1).2.2.1 ∈ tb := tb_t (List.mem_of_getElem? (i := 1162) (by decide +kernel)) (by decide +kernel)
theorem fl_RX11_93 : Cond.fieldLink RX11 93 (TX11 5).1 (TX11 5).2.1 (TX11 5).2.2.1 ∈ tb := tb_t (List.mem_of_getElem? (i := 1166) (by decide +kernel)) (by decide +kernel)
theorem fl_RX11_61 : Cond.fieldLink RX11 61 (TX11 31).1 (TX11 31).2.1 (TX11 31).2.2.1 ∈ tb := tb_t (List.mem_of_getElem? (i := 1192) (by decide +kernel)) (by decide +kernel)
theorem fl_RX11_16 : Cond.fieldLink RX11 16 (TX11 3).1 (TX11 3).2.1 (TX11 3).2.2.1 ∈ tb := tb_t (List.mem_of_getElem? (i := 1164) (by decide +kernel)) (by decide +kernel)
theorem fl_RX11_130 : Cond.fieldLink RX11 130 (TX11 12).1 (TX11 12).2.1 (TX11 12).2.2.1 ∈ tb := tb_t (List.mem_of_getElem? (i := 1173) (by decide +kernel)) (by decide +kernel)
theorem fl_RX11_27 : Cond.fieldLink RX11 27 (TX11 13).1 (TX11 13).2.1 (TX11 13).2.2.1 ∈ tb := tb_t (List.mem_of_getElem? (i := 1174) (by decide +kernel)) (by decide +kernel)
theorem ki_RX10_201 : Cond.constant RX10 201 1000000 ∈ tb := tb_t (List.mem_of_getElem? (i := 707) (by decide +kernel)) (by decide +kernel)
theorem ki_RX10_380 : Cond.constant RX10 380 2000000000 ∈ tb := tb_t (List.mem_of_getElem? (i := 1060) (by decide +kernel)) (by decide +kernel)
theorem ki_RX11_307 : Cond.constant RX11 307 (-2000000) ∈ tb := tb_t (List.mem_of_getElem? (i := 1548) (by decide +kernel)) (by decide +kernel)
theorem kl_RX10_289 : Cond.constantLong RX10 289 (-2) ∈ tb := tb_t (List.mem_of_getElem? (i := 994) (by decide +kernel)) (by decide +kernel)
theorem kl_RX11_225 : Cond.constantLong RX11 225 3 ∈ tb := tb_t (List.mem_of_getElem? (i := 1397) (by decide +kernel)) (by decide +kernel)
theorem kl_RX11_439 : Cond.constantLong RX11 439 2000000000 ∈ tb := tb_t (List.mem_of_getElem? (i := 1803) (by decide +kernel)) (by decide +kernel)
theorem kl_RX11_273 : Cond.constantLong RX11 273 1000000 ∈ tb := tb_t (List.mem_of_getElem? (i := 1491) (by decide +kernel)) (by decide +kernel)
theorem kl_RX11_325 : Cond.constantLong RX11 325 5 ∈ tb := tb_t (List.mem_of_getElem? (i := 1590) (by decide +kernel)) (by decide +kernel)
theorem kl_RX11_401 : Cond.constantLong RX11 401 (-2) ∈ tb := tb_t (List.mem_of_getElem? (i := 1751) (by decide +kernel)) (by decide +kernel)
theorem kl_RX11_448 : Cond.constantLong RX11 448 20 ∈ tb := tb_t (List.mem_of_getElem? (i := 1828) (by decide +kernel)) (by decide +kernel)
theorem kl_RX11_77 : Cond.constantLong RX11 77 2 ∈ tb := tb_t (List.mem_of_getElem? (i := 1272) (by decide +kernel)) (by decide +kernel)
theorem okV_RX10_377 : okV RX10 RX3 377 yX3_hasRoom cX3_hasRoom 2 (some .boolean) 1 := ⟨⟨tb_t (List.mem_of_getElem? (i := 581) (by decide +kernel)) (by decide +kernel), tb_t (List.mem_of_getElem? (i := 488) (by decide +kernel)) (by decide +kernel), tb_t (List.mem_of_getElem? (i := 489) (by decide +kernel)) (by decide +kernel), tb_t (List.mem_of_getElem? (i := 4) (by decide +kernel)) (by decide +kernel), tb_t (List.mem_of_getElem? (i := 490) (by decide +kernel)) (by decide +kernel)⟩, by decide +kernel⟩
theorem okV_RX10_152 : okV RX10 RX10 152 yX10_hasHouse cX10_hasHouse 1 (some .boolean) 0 := ⟨⟨tb_t (List.mem_of_getElem? (i := 611) (by decide +kernel)) (by decide +kernel), tb_t (List.mem_of_getElem? (i := 613) (by decide +kernel)) (by decide +kernel), tb_s (q := (⟨"CallForBrown", "hasHouse", "()Z"⟩, _)) (List.mem_of_getElem? (i := 20) rfl) (by decide +kernel), tb_t (List.mem_of_getElem? (i := 1) (by decide +kernel)) (by decide +kernel), tb_t (List.mem_of_getElem? (i := 614) (by decide +kernel)) (by decide +kernel)⟩, by decide +kernel⟩
theorem okV_RX10_348 : okV RX10 RX10 348 yX10_isSlot cX10_isSlot 2 (some .boolean) 1 := ⟨⟨tb_t (List.mem_of_getElem? (i := 679) (by decide +kernel)) (by decide +kernel), tb_t (List.mem_of_getElem? (i := 681) (by decide +kernel)) (by decide +kernel), tb_s (q := (⟨"CallForBrown", "isSlot", "(I)Z"⟩, _)) (List.mem_of_getElem? (i := 23) rfl) (by decide +kernel), tb_t (List.mem_of_getElem? (i := 1) (by decide +kernel)) (by decide +kernel), tb_t (List.mem_of_getElem? (i := 682) (by decide +kernel)) (by decide +kernel)⟩, by decide +kernel⟩
theorem okV_RX10_381 : okV RX10 RX10 381 yX10_askRow cX10_askRow 4 (some .int) 3 := ⟨⟨tb_t (List.mem_of_getElem? (i := 675) (by decide +kernel)) (by decide +kernel), tb_t (List.mem_of_getElem? (i := 677) (by decide +kernel)) (by decide +kernel), tb_s (q := (⟨"CallForBrown", "askRow", "(IZI)I"⟩, _)) (List.mem_of_getElem? (i := 22) rfl) (by decide +kernel), tb_t (List.mem_of_getElem? (i := 1) (by decide +kernel)) (by decide +kernel), tb_t (List.mem_of_getElem? (i := 678) (by decide +kernel)) (by decide +kernel)⟩, by decide +kernel⟩
theorem okV_RX10_120 : okV RX10 RX10 120 yX10_isRoom cX10_isRoom 2 (some .boolean) 1 := ⟨⟨tb_t (List.mem_of_getElem? (i := 577) (by decide +kernel)) (by decide +kernel), tb_t (List.mem_of_getElem? (i := 579) (by decide +kernel)) (by decide +kernel), tb_s (q := (⟨"CallForBrown", "isRoom", "(I)Z"⟩, _)) (List.mem_of_getElem? (i := 17) rfl) (by decide +kernel), tb_t (List.mem_of_getElem? (i := 1) (by decide +kernel)) (by decide +kernel), tb_t (List.mem_of_getElem? (i := 580) (by decide +kernel)) (by decide +kernel)⟩, by decide +kernel⟩
theorem okV_RX10_128 : okV RX10 RX10 128 yX10_isMan cX10_isMan 2 (some .boolean) 1 := ⟨⟨tb_t (List.mem_of_getElem? (i := 590) (by decide +kernel)) (by decide +kernel), tb_t (List.mem_of_getElem? (i := 592) (by decide +kernel)) (by decide +kernel), tb_s (q := (⟨"CallForBrown", "isMan", "(I)Z"⟩, _)) (List.mem_of_getElem? (i := 18) rfl) (by decide +kernel), tb_t (List.mem_of_getElem? (i := 1) (by decide +kernel)) (by decide +kernel), tb_t (List.mem_of_getElem? (i := 593) (by decide +kernel)) (by decide +kernel)⟩, by decide +kernel⟩
theorem okV_RX10_145 : okV RX10 RX10 145 yX10_isRoomOrOut cX10_isRoomOrOut 2 (some .boolean) 1 := ⟨⟨tb_t (List.mem_of_getElem? (i := 607) (by decide +kernel)) (by decide +kernel), tb_t (List.mem_of_getElem? (i := 609) (by decide +kernel)) (by decide +kernel), tb_s (q := (⟨"CallForBrown", "isRoomOrOut", "(I)Z"⟩, _)) (List.mem_of_getElem? (i := 19) rfl) (by decide +kernel), tb_t (List.mem_of_getElem? (i := 1) (by decide +kernel)) (by decide +kernel), tb_t (List.mem_of_getElem? (i := 610) (by decide +kernel)) (by decide +kernel)⟩, by decide +kernel⟩
theorem okV_RX10_186 : okV RX10 RX10 186 yX10_askRound cX10_askRound 3 (some .int) 2 := ⟨⟨tb_t (List.mem_of_getElem? (i := 671) (by decide +kernel)) (by decide +kernel), tb_t (List.mem_of_getElem? (i := 673) (by decide +kernel)) (by decide +kernel), tb_s (q := (⟨"CallForBrown", "askRound", "(IZ)I"⟩, _)) (List.mem_of_getElem? (i := 21) rfl) (by decide +kernel), tb_t (List.mem_of_getElem? (i := 1) (by decide +kernel)) (by decide +kernel), tb_t (List.mem_of_getElem? (i := 674) (by decide +kernel)) (by decide +kernel)⟩, by decide +kernel⟩
theorem okV_RX10_205 : okV RX10 RX10 205 yX10_isPartOfMillion cX10_isPartOfMillion 2 (some .boolean) 1 := ⟨⟨tb_t (List.mem_of_getElem? (i := 725) (by decide +kernel)) (by decide +kernel), tb_t (List.mem_of_getElem? (i := 727) (by decide +kernel)) (by decide +kernel), tb_s (q := (⟨"CallForBrown", "isPartOfMillion", "(I)Z"⟩, _)) (List.mem_of_getElem? (i := 27) rfl) (by decide +kernel), tb_t (List.mem_of_getElem? (i := 1) (by decide +kernel)) (by decide +kernel), tb_t (List.mem_of_getElem? (i := 728) (by decide +kernel)) (by decide +kernel)⟩, by decide +kernel⟩
theorem okV_RX10_267 : okV RX10 RX10 267 yX10_isSet cX10_isSet 2 (some .boolean) 1 := ⟨⟨tb_t (List.mem_of_getElem? (i := 928) (by decide +kernel)) (by decide +kernel), tb_t (List.mem_of_getElem? (i := 930) (by decide +kernel)) (by decide +kernel), tb_s (q := (⟨"CallForBrown", "isSet", "(I)Z"⟩, _)) (List.mem_of_getElem? (i := 40) rfl) (by decide +kernel), tb_t (List.mem_of_getElem? (i := 1) (by decide +kernel)) (by decide +kernel), tb_t (List.mem_of_getElem? (i := 931) (by decide +kernel)) (by decide +kernel)⟩, by decide +kernel⟩
theorem okV_RX10_299 : okV RX10 RX10 299 yX10_askHabits cX10_askHabits 3 (some .int) 2 := ⟨⟨tb_t (List.mem_of_getElem? (i := 1028) (by decide +kernel)) (by decide +kernel), tb_t (List.mem_of_getElem? (i := 1030) (by decide +kernel)) (by decide +kernel), tb_s (q := (⟨"CallForBrown", "askHabits", "(IZ)I"⟩, _)) (List.mem_of_getElem? (i := 48) rfl) (by decide +kernel), tb_t (List.mem_of_getElem? (i := 1) (by decide +kernel)) (by decide +kernel), tb_t (List.mem_of_getElem? (i := 1031) (by decide +kernel)) (by decide +kernel)⟩, by decide +kernel⟩
theorem okV_RX10_308 : okV RX10 RX10 308 yX10_isSeed cX10_isSeed 2 (some .boolean) 1 := ⟨⟨tb_t (List.mem_of_getElem? (i := 1056) (by decide +kernel)) (by decide +kernel), tb_t (List.mem_of_getElem? (i := 1058) (by decide +kernel)) (by decide +kernel), tb_s (q := (⟨"CallForBrown", "isSeed", "(I)Z"⟩, _)) (List.mem_of_getElem? (i := 50) rfl) (by decide +kernel), tb_t (List.mem_of_getElem? (i := 1) (by decide +kernel)) (by decide +kernel), tb_t (List.mem_of_getElem? (i := 1059) (by decide +kernel)) (by decide +kernel)⟩, by decide +kernel⟩
theorem okV_RX10_335 : okV RX10 RX3 335 yX3_countDoors cX3_countDoors 3 (some .int) 0 := ⟨⟨tb_t (List.mem_of_getElem? (i := 1107) (by decide +kernel)) (by decide +kernel), tb_t (List.mem_of_getElem? (i := 1108) (by decide +kernel)) (by decide +kernel), tb_t (List.mem_of_getElem? (i := 1109) (by decide +kernel)) (by decide +kernel), tb_t (List.mem_of_getElem? (i := 4) (by decide +kernel)) (by decide +kernel), tb_t (List.mem_of_getElem? (i := 1110) (by decide +kernel)) (by decide +kernel)⟩, by decide +kernel⟩
theorem okV_RX10_238 : okV RX10 RX3 238 yX3_allRooms cX3_allRooms 1 (some .int) 0 := ⟨⟨tb_t (List.mem_of_getElem? (i := 822) (by decide +kernel)) (by decide +kernel), tb_t (List.mem_of_getElem? (i := 823) (by decide +kernel)) (by decide +kernel), tb_t (List.mem_of_getElem? (i := 824) (by decide +kernel)) (by decide +kernel), tb_t (List.mem_of_getElem? (i := 4) (by decide +kernel)) (by decide +kernel), tb_t (List.mem_of_getElem? (i := 825) (by decide +kernel)) (by decide +kernel)⟩, by decide +kernel⟩
theorem okV_RX10_247 : okV RX10 RX10 247 yX10_peopleOf cX10_peopleOf 4 (some .int) 1 := ⟨⟨tb_t (List.mem_of_getElem? (i := 839) (by decide +kernel)) (by decide +kernel), tb_t (List.mem_of_getElem? (i := 841) (by decide +kernel)) (by decide +kernel), tb_s (q := (⟨"CallForBrown", "peopleOf", "(I)I"⟩, _)) (List.mem_of_getElem? (i := 35) rfl) (by decide +kernel), tb_t (List.mem_of_getElem? (i := 1) (by decide +kernel)) (by decide +kernel), tb_t (List.mem_of_getElem? (i := 842) (by decide +kernel)) (by decide +kernel)⟩, by decide +kernel⟩
theorem okV_RX10_338 : okV RX10 RX10 338 yX10_countRows cX10_countRows 3 (some .int) 0 := ⟨⟨tb_t (List.mem_of_getElem? (i := 1112) (by decide +kernel)) (by decide +kernel), tb_t (List.mem_of_getElem? (i := 1114) (by decide +kernel)) (by decide +kernel), tb_s (q := (⟨"CallForBrown", "countRows", "()I"⟩, _)) (List.mem_of_getElem? (i := 54) rfl) (by decide +kernel), tb_t (List.mem_of_getElem? (i := 1) (by decide +kernel)) (by decide +kernel), tb_t (List.mem_of_getElem? (i := 1115) (by decide +kernel)) (by decide +kernel)⟩, by decide +kernel⟩
theorem okV_RX11_83 : okV RX11 RX11 83 yX11_isHouse cX11_isHouse 1 (some .boolean) 0 := ⟨⟨tb_t (List.mem_of_getElem? (i := 1435) (by decide +kernel)) (by decide +kernel), tb_t (List.mem_of_getElem? (i := 1437) (by decide +kernel)) (by decide +kernel), tb_s (q := (⟨"CallForBrownModel", "isHouse", "()Z"⟩, _)) (List.mem_of_getElem? (i := 78) rfl) (by decide +kernel), tb_t (List.mem_of_getElem? (i := 12) (by decide +kernel)) (by decide +kernel), tb_t (List.mem_of_getElem? (i := 1438) (by decide +kernel)) (by decide +kernel)⟩, by decide +kernel⟩
theorem okV_RX11_89 : okV RX11 RX11 89 yX11_isRoom cX11_isRoom 3 (some .boolean) 1 := ⟨⟨tb_t (List.mem_of_getElem? (i := 1393) (by decide +kernel)) (by decide +kernel), tb_t (List.mem_of_getElem? (i := 1395) (by decide +kernel)) (by decide +kernel), tb_s (q := (⟨"CallForBrownModel", "isRoom", "(J)Z"⟩, _)) (List.mem_of_getElem? (i := 72) rfl) (by decide +kernel), tb_t (List.mem_of_getElem? (i := 12) (by decide +kernel)) (by decide +kernel), tb_t (List.mem_of_getElem? (i := 1396) (by decide +kernel)) (by decide +kernel)⟩, by decide +kernel⟩
theorem okV_RX11_230 : okV RX11 RX11 230 yX11_isMan cX11_isMan 2 (some .boolean) 1 := ⟨⟨tb_t (List.mem_of_getElem? (i := 1406) (by decide +kernel)) (by decide +kernel), tb_t (List.mem_of_getElem? (i := 1408) (by decide +kernel)) (by decide +kernel), tb_s (q := (⟨"CallForBrownModel", "isMan", "(I)Z"⟩, _)) (List.mem_of_getElem? (i := 74) rfl) (by decide +kernel), tb_t (List.mem_of_getElem? (i := 12) (by decide +kernel)) (by decide +kernel), tb_t (List.mem_of_getElem? (i := 1409) (by decide +kernel)) (by decide +kernel)⟩, by decide +kernel⟩
theorem okV_RX11_275 : okV RX11 RX11 275 yX11_isRoomOrNone cX11_isRoomOrNone 3 (some .boolean) 1 := ⟨⟨tb_t (List.mem_of_getElem? (i := 1431) (by decide +kernel)) (by decide +kernel), tb_t (List.mem_of_getElem? (i := 1433) (by decide +kernel)) (by decide +kernel), tb_s (q := (⟨"CallForBrownModel", "isRoomOrNone", "(J)Z"⟩, _)) (List.mem_of_getElem? (i := 77) rfl) (by decide +kernel), tb_t (List.mem_of_getElem? (i := 12) (by decide +kernel)) (by decide +kernel), tb_t (List.mem_of_getElem? (i := 1434) (by decide +kernel)) (by decide +kernel)⟩, by decide +kernel⟩
theorem okV_RX11_303 : okV RX11 RX11 303 yX11_asksRound cX11_asksRound 4 (some .int) 2 := ⟨⟨tb_t (List.mem_of_getElem? (i := 1517) (by decide +kernel)) (by decide +kernel), tb_t (List.mem_of_getElem? (i := 1519) (by decide +kernel)) (by decide +kernel), tb_s (q := (⟨"CallForBrownModel", "asksRound", "(IZ)I"⟩, _)) (List.mem_of_getElem? (i := 87) rfl) (by decide +kernel), tb_t (List.mem_of_getElem? (i := 12) (by decide +kernel)) (by decide +kernel), tb_t (List.mem_of_getElem? (i := 1520) (by decide +kernel)) (by decide +kernel)⟩, by decide +kernel⟩
theorem okV_RX11_375 : okV RX11 RX11 375 yX11_areMen cX11_areMen 2 (some .boolean) 1 := ⟨⟨tb_t (List.mem_of_getElem? (i := 1704) (by decide +kernel)) (by decide +kernel), tb_t (List.mem_of_getElem? (i := 1706) (by decide +kernel)) (by decide +kernel), tb_s (q := (⟨"CallForBrownModel", "areMen", "(I)Z"⟩, _)) (List.mem_of_getElem? (i := 105) rfl) (by decide +kernel), tb_t (List.mem_of_getElem? (i := 12) (by decide +kernel)) (by decide +kernel), tb_t (List.mem_of_getElem? (i := 1707) (by decide +kernel)) (by decide +kernel)⟩, by decide +kernel⟩
theorem okV_RX11_406 : okV RX11 RX11 406 yX11_asksHabit cX11_asksHabit 4 (some .int) 2 := ⟨⟨tb_t (List.mem_of_getElem? (i := 1780) (by decide +kernel)) (by decide +kernel), tb_t (List.mem_of_getElem? (i := 1782) (by decide +kernel)) (by decide +kernel), tb_s (q := (⟨"CallForBrownModel", "asksHabit", "(IZ)I"⟩, _)) (List.mem_of_getElem? (i := 114) rfl) (by decide +kernel), tb_t (List.mem_of_getElem? (i := 12) (by decide +kernel)) (by decide +kernel), tb_t (List.mem_of_getElem? (i := 1783) (by decide +kernel)) (by decide +kernel)⟩, by decide +kernel⟩
theorem okS_RX11_79 : okS RX11 79 yX11_in cX11_in 6 (some .boolean) 3 := ⟨⟨tb_t (List.mem_of_getElem? (i := 1273) (by decide +kernel)) (by decide +kernel), tb_t (List.mem_of_getElem? (i := 1274) (by decide +kernel)) (by decide +kernel), tb_t (List.mem_of_getElem? (i := 12) (by decide +kernel)) (by decide +kernel), tb_t (List.mem_of_getElem? (i := 1275) (by decide +kernel)) (by decide +kernel)⟩, by decide +kernel⟩
theorem okS_RX11_290 : okS RX11 290 yX11_isSlot cX11_isSlot 1 (some .boolean) 1 := ⟨⟨tb_t (List.mem_of_getElem? (i := 1521) (by decide +kernel)) (by decide +kernel), tb_t (List.mem_of_getElem? (i := 1522) (by decide +kernel)) (by decide +kernel), tb_t (List.mem_of_getElem? (i := 12) (by decide +kernel)) (by decide +kernel), tb_t (List.mem_of_getElem? (i := 1523) (by decide +kernel)) (by decide +kernel)⟩, by decide +kernel⟩
theorem okS_RX11_441 : okS RX11 441 yX11_isSeed cX11_isSeed 1 (some .boolean) 1 := ⟨⟨tb_t (List.mem_of_getElem? (i := 1800) (by decide +kernel)) (by decide +kernel), tb_t (List.mem_of_getElem? (i := 1801) (by decide +kernel)) (by decide +kernel), tb_t (List.mem_of_getElem? (i := 12) (by decide +kernel)) (by decide +kernel), tb_t (List.mem_of_getElem? (i := 1802) (by decide +kernel)) (by decide +kernel)⟩, by decide +kernel⟩
end
section
theorem dX3_hasRoom_0 : decode cX3_hasRoom 0 = .ok (.iload_n 1, 1) := by decide +kernel
theorem dX3_hasRoom_1 : decode cX3_hasRoom 1 = .ok (.ifCond .lt 15, 3) := by decide +kernel
theorem dX3_hasRoom_16 : decode cX3_hasRoom 16 = .ok (.iconst 0, 1) := by decide +kernel
theorem dX3_hasRoom_17 : decode cX3_hasRoom 17 = .ok (.ireturn, 1) := by decide +kernel
theorem dX3_hasRoom_4 : decode cX3_hasRoom 4 = .ok (.iload_n 1, 1) := by decide +kernel
theorem dX3_hasRoom_5 : decode cX3_hasRoom 5 = .ok (.aload_n 0, 1) := by decide +kernel
theorem dX3_hasRoom_6 : decode cX3_hasRoom 6 = .ok (.getfield 49, 3) := by decide +kernel
theorem dX3_hasRoom_9 : decode cX3_hasRoom 9 = .ok (.if_icmp .ge 7, 3) := by decide +kernel
theorem dX3_allRooms_0 : decode cX3_allRooms 0 = .ok (.iconst 1, 1) := by decide +kernel
theorem dX3_allRooms_1 : decode cX3_allRooms 1 = .ok (.aload_n 0, 1) := by decide +kernel
theorem dX3_allRooms_2 : decode cX3_allRooms 2 = .ok (.getfield 49, 3) := by decide +kernel
theorem dX3_allRooms_5 : decode cX3_allRooms 5 = .ok (.ishl, 1) := by decide +kernel
theorem dX3_allRooms_6 : decode cX3_allRooms 6 = .ok (.iconst 1, 1) := by decide +kernel
theorem dX3_allRooms_7 : decode cX3_allRooms 7 = .ok (.isub, 1) := by decide +kernel
theorem dX3_allRooms_8 : decode cX3_allRooms 8 = .ok (.ireturn, 1) := by decide +kernel
theorem dX3_countDoors_0 : decode cX3_countDoors 0 = .ok (.iconst 0, 1) := by decide +kernel
theorem dX3_countDoors_1 : decode cX3_countDoors 1 = .ok (.istore_n 1, 1) := by decide +kernel
theorem dX3_countDoors_2 : decode cX3_countDoors 2 = .ok (.iconst 0, 1) := by decide +kernel
theorem dX3_countDoors_3 : decode cX3_countDoors 3 = .ok (.istore_n 2, 1) := by decide +kernel
theorem dX3_countDoors_4 : decode cX3_countDoors 4 = .ok (.iload_n 2, 1) := by decide +kernel
theorem dX3_countDoors_5 : decode cX3_countDoors 5 = .ok (.aload_n 0, 1) := by decide +kernel
theorem dX3_countDoors_6 : decode cX3_countDoors 6 = .ok (.getfield 49, 3) := by decide +kernel
theorem dX3_countDoors_9 : decode cX3_countDoors 9 = .ok (.if_icmp .ge 21, 3) := by decide +kernel
theorem dX3_countDoors_30 : decode cX3_countDoors 30 = .ok (.iload_n 1, 1) := by decide +kernel
theorem dX3_countDoors_31 : decode cX3_countDoors 31 = .ok (.iconst 2, 1) := by decide +kernel
theorem dX3_countDoors_32 : decode cX3_countDoors 32 = .ok (.idiv, 1) := by decide +kernel
theorem dX3_countDoors_33 : decode cX3_countDoors 33 = .ok (.ireturn, 1) := by decide +kernel
theorem dX10_hasHouse_0 : decode cX10_hasHouse 0 = .ok (.aload_n 0, 1) := by decide +kernel
theorem dX10_hasHouse_1 : decode cX10_hasHouse 1 = .ok (.getfield 31, 3) := by decide +kernel
theorem dX10_hasHouse_4 : decode cX10_hasHouse 4 = .ok (.getfield 98, 3) := by decide +kernel
theorem dX10_hasHouse_7 : decode cX10_hasHouse 7 = .ok (.getfield 111, 3) := by decide +kernel
theorem dX10_hasHouse_10 : decode cX10_hasHouse 10 = .ok (.ifCond .le 7, 3) := by decide +kernel
theorem dX10_hasHouse_17 : decode cX10_hasHouse 17 = .ok (.iconst 0, 1) := by decide +kernel
theorem dX10_hasHouse_18 : decode cX10_hasHouse 18 = .ok (.ireturn, 1) := by decide +kernel
theorem dX10_isRoom_0 : decode cX10_isRoom 0 = .ok (.aload_n 0, 1) := by decide +kernel
theorem dX10_isRoom_1 : decode cX10_isRoom 1 = .ok (.getfield 31, 3) := by decide +kernel
theorem dX10_isRoom_4 : decode cX10_isRoom 4 = .ok (.getfield 98, 3) := by decide +kernel
theorem dX10_isRoom_7 : decode cX10_isRoom 7 = .ok (.iload_n 1, 1) := by decide +kernel
theorem dX10_isRoom_8 : decode cX10_isRoom 8 = .ok (.invokevirtual 377, 3) := by decide +kernel
theorem dX10_isRoom_11 : decode cX10_isRoom 11 = .ok (.ireturn, 1) := by decide +kernel
theorem dX10_isRoomOrOut_0 : decode cX10_isRoomOrOut 0 = .ok (.aload_n 0, 1) := by decide +kernel
theorem dX10_isRoomOrOut_1 : decode cX10_isRoomOrOut 1 = .ok (.invokevirtual 152, 3) := by decide +kernel
theorem dX10_isRoomOrOut_4 : decode cX10_isRoomOrOut 4 = .ok (.ifCond .eq 20, 3) := by decide +kernel
theorem dX10_isRoomOrOut_24 : decode cX10_isRoomOrOut 24 = .ok (.iconst 0, 1) := by decide +kernel
theorem dX10_isRoomOrOut_25 : decode cX10_isRoomOrOut 25 = .ok (.ireturn, 1) := by decide +kernel
theorem dX10_isMan_0 : decode cX10_isMan 0 = .ok (.iload_n 1, 1) := by decide +kernel
theorem dX10_isMan_1 : decode cX10_isMan 1 = .ok (.ifCond .lt 21, 3) := by decide +kernel
theorem dX10_isMan_22 : decode cX10_isMan 22 = .ok (.iconst 0, 1) := by decide +kernel
theorem dX10_isMan_23 : decode cX10_isMan 23 = .ok (.ireturn, 1) := by decide +kernel
theorem dX10_isMan_4 : decode cX10_isMan 4 = .ok (.iload_n 1, 1) := by decide +kernel
theorem dX10_isMan_5 : decode cX10_isMan 5 = .ok (.aload_n 0, 1) := by decide +kernel
theorem dX10_isMan_6 : decode cX10_isMan 6 = .ok (.getfield 31, 3) := by decide +kernel
theorem dX10_isMan_9 : decode cX10_isMan 9 = .ok (.getfield 98, 3) := by decide +kernel
theorem dX10_isMan_12 : decode cX10_isMan 12 = .ok (.getfield 283, 3) := by decide +kernel
theorem dX10_isMan_15 : decode cX10_isMan 15 = .ok (.if_icmp .ge 7, 3) := by decide +kernel
theorem dX10_isSet_0 : decode cX10_isSet 0 = .ok (.iload_n 1, 1) := by decide +kernel
theorem dX10_isSet_1 : decode cX10_isSet 1 = .ok (.iconst 1, 1) := by decide +kernel
theorem dX10_isSet_2 : decode cX10_isSet 2 = .ok (.if_icmp .lt 23, 3) := by decide +kernel
theorem dX10_isSet_25 : decode cX10_isSet 25 = .ok (.iconst 0, 1) := by decide +kernel
theorem dX10_isSet_26 : decode cX10_isSet 26 = .ok (.ireturn, 1) := by decide +kernel
theorem dX10_isSet_5 : decode cX10_isSet 5 = .ok (.iload_n 1, 1) := by decide +kernel
theorem dX10_isSet_6 : decode cX10_isSet 6 = .ok (.iconst 1, 1) := by decide +kernel
theorem dX10_isSet_7 : decode cX10_isSet 7 = .ok (.aload_n 0, 1) := by decide +kernel
theorem dX10_isSet_8 : decode cX10_isSet 8 = .ok (.getfield 31, 3) := by decide +kernel
theorem dX10_isSet_11 : decode cX10_isSet 11 = .ok (.getfield 98, 3) := by decide +kernel
theorem dX10_isSet_14 : decode cX10_isSet 14 = .ok (.getfield 283, 3) := by decide +kernel
theorem dX10_isSet_17 : decode cX10_isSet 17 = .ok (.ishl, 1) := by decide +kernel
theorem dX10_isSet_18 : decode cX10_isSet 18 = .ok (.if_icmp .ge 7, 3) := by decide +kernel
theorem dX10_isPartOfMillion_0 : decode cX10_isPartOfMillion 0 = .ok (.iload_n 1, 1) := by decide +kernel
theorem dX10_isPartOfMillion_1 : decode cX10_isPartOfMillion 1 = .ok (.ifCond .lt 13, 3) := by decide +kernel
theorem dX10_isPartOfMillion_14 : decode cX10_isPartOfMillion 14 = .ok (.iconst 0, 1) := by decide +kernel
theorem dX10_isPartOfMillion_15 : decode cX10_isPartOfMillion 15 = .ok (.ireturn, 1) := by decide +kernel
theorem dX10_isPartOfMillion_4 : decode cX10_isPartOfMillion 4 = .ok (.iload_n 1, 1) := by decide +kernel
theorem dX10_isPartOfMillion_5 : decode cX10_isPartOfMillion 5 = .ok (.ldc 201, 2) := by decide +kernel
theorem dX10_isPartOfMillion_7 : decode cX10_isPartOfMillion 7 = .ok (.if_icmp .gt 7, 3) := by decide +kernel
theorem dX10_isPartOfMillion_10 : decode cX10_isPartOfMillion 10 = .ok (.iconst 1, 1) := by decide +kernel
theorem dX10_isPartOfMillion_11 : decode cX10_isPartOfMillion 11 = .ok (.goto 4, 3) := by decide +kernel
theorem dX10_isSeed_0 : decode cX10_isSeed 0 = .ok (.iload_n 1, 1) := by decide +kernel
theorem dX10_isSeed_1 : decode cX10_isSeed 1 = .ok (.ifCond .lt 14, 3) := by decide +kernel
theorem dX10_isSeed_15 : decode cX10_isSeed 15 = .ok (.iconst 0, 1) := by decide +kernel
theorem dX10_isSeed_16 : decode cX10_isSeed 16 = .ok (.ireturn, 1) := by decide +kernel
theorem dX10_isSeed_4 : decode cX10_isSeed 4 = .ok (.iload_n 1, 1) := by decide +kernel
theorem dX10_isSeed_5 : decode cX10_isSeed 5 = .ok (.ldc_w 380, 3) := by decide +kernel
theorem dX10_isSeed_8 : decode cX10_isSeed 8 = .ok (.if_icmp .gt 7, 3) := by decide +kernel
theorem dX10_isSeed_11 : decode cX10_isSeed 11 = .ok (.iconst 1, 1) := by decide +kernel
theorem dX10_isSeed_12 : decode cX10_isSeed 12 = .ok (.goto 4, 3) := by decide +kernel
theorem dX10_isSlot_0 : decode cX10_isSlot 0 = .ok (.iload_n 1, 1) := by decide +kernel
theorem dX10_isSlot_1 : decode cX10_isSlot 1 = .ok (.ifCond .lt 12, 3) := by decide +kernel
theorem dX10_isSlot_13 : decode cX10_isSlot 13 = .ok (.iconst 0, 1) := by decide +kernel
theorem dX10_isSlot_14 : decode cX10_isSlot 14 = .ok (.ireturn, 1) := by decide +kernel
theorem dX10_isSlot_4 : decode cX10_isSlot 4 = .ok (.iload_n 1, 1) := by decide +kernel
theorem dX10_isSlot_5 : decode cX10_isSlot 5 = .ok (.iconst 4, 1) := by decide +kernel
theorem dX10_isSlot_6 : decode cX10_isSlot 6 = .ok (.if_icmp .ge 7, 3) := by decide +kernel
theorem dX10_isSlot_9 : decode cX10_isSlot 9 = .ok (.iconst 1, 1) := by decide +kernel
theorem dX10_isSlot_10 : decode cX10_isSlot 10 = .ok (.goto 4, 3) := by decide +kernel
theorem dX10_askRow_0 : decode cX10_askRow 0 = .ok (.aload_n 0, 1) := by decide +kernel
theorem dX10_askRow_1 : decode cX10_askRow 1 = .ok (.iload_n 1, 1) := by decide +kernel
theorem dX10_askRow_2 : decode cX10_askRow 2 = .ok (.invokevirtual 348, 3) := by decide +kernel
theorem dX10_askRow_5 : decode cX10_askRow 5 = .ok (.ifCond .eq 14, 3) := by decide +kernel
theorem dX10_askRow_19 : decode cX10_askRow 19 = .ok (.bipush (-2), 2) := by decide +kernel
theorem dX10_askRow_21 : decode cX10_askRow 21 = .ok (.ireturn, 1) := by decide +kernel
theorem dX10_askRow_8 : decode cX10_askRow 8 = .ok (.aload_n 0, 1) := by decide +kernel
theorem dX10_askRow_9 : decode cX10_askRow 9 = .ok (.invokevirtual 152, 3) := by decide +kernel
theorem dX10_askRow_12 : decode cX10_askRow 12 = .ok (.ifCond .eq 7, 3) := by decide +kernel
theorem dX10_askRound_0 : decode cX10_askRound 0 = .ok (.aload_n 0, 1) := by decide +kernel
theorem dX10_askRound_1 : decode cX10_askRound 1 = .ok (.iload_n 1, 1) := by decide +kernel
theorem dX10_askRound_2 : decode cX10_askRound 2 = .ok (.iload_n 2, 1) := by decide +kernel
theorem dX10_askRound_3 : decode cX10_askRound 3 = .ok (.iconst (-1), 1) := by decide +kernel
theorem dX10_askRound_4 : decode cX10_askRound 4 = .ok (.invokevirtual 381, 3) := by decide +kernel
theorem dX10_askRound_7 : decode cX10_askRound 7 = .ok (.ireturn, 1) := by decide +kernel
theorem dX10_askHabits_0 : decode cX10_askHabits 0 = .ok (.aload_n 0, 1) := by decide +kernel
theorem dX10_askHabits_1 : decode cX10_askHabits 1 = .ok (.iload_n 1, 1) := by decide +kernel
theorem dX10_askHabits_2 : decode cX10_askHabits 2 = .ok (.iload_n 2, 1) := by decide +kernel
theorem dX10_askHabits_3 : decode cX10_askHabits 3 = .ok (.iconst 0, 1) := by decide +kernel
theorem dX10_askHabits_4 : decode cX10_askHabits 4 = .ok (.invokevirtual 381, 3) := by decide +kernel
theorem dX10_askHabits_7 : decode cX10_askHabits 7 = .ok (.ireturn, 1) := by decide +kernel
theorem dX10_peopleOf_0 : decode cX10_peopleOf 0 = .ok (.iconst 0, 1) := by decide +kernel
theorem dX10_peopleOf_1 : decode cX10_peopleOf 1 = .ok (.istore_n 2, 1) := by decide +kernel
theorem dX10_peopleOf_2 : decode cX10_peopleOf 2 = .ok (.iconst 0, 1) := by decide +kernel
theorem dX10_peopleOf_3 : decode cX10_peopleOf 3 = .ok (.istore_n 3, 1) := by decide +kernel
theorem dX10_peopleOf_4 : decode cX10_peopleOf 4 = .ok (.iload_n 3, 1) := by decide +kernel
theorem dX10_peopleOf_5 : decode cX10_peopleOf 5 = .ok (.aload_n 0, 1) := by decide +kernel
theorem dX10_peopleOf_6 : decode cX10_peopleOf 6 = .ok (.getfield 31, 3) := by decide +kernel
theorem dX10_peopleOf_9 : decode cX10_peopleOf 9 = .ok (.getfield 98, 3) := by decide +kernel
theorem dX10_peopleOf_12 : decode cX10_peopleOf 12 = .ok (.getfield 159, 3) := by decide +kernel
theorem dX10_peopleOf_15 : decode cX10_peopleOf 15 = .ok (.if_icmp .ge 32, 3) := by decide +kernel
theorem dX10_peopleOf_47 : decode cX10_peopleOf 47 = .ok (.iload_n 2, 1) := by decide +kernel
theorem dX10_peopleOf_48 : decode cX10_peopleOf 48 = .ok (.ireturn, 1) := by decide +kernel
theorem dX10_countRows_0 : decode cX10_countRows 0 = .ok (.iconst 0, 1) := by decide +kernel
theorem dX10_countRows_1 : decode cX10_countRows 1 = .ok (.istore_n 1, 1) := by decide +kernel
theorem dX10_countRows_2 : decode cX10_countRows 2 = .ok (.iconst 0, 1) := by decide +kernel
theorem dX10_countRows_3 : decode cX10_countRows 3 = .ok (.istore_n 2, 1) := by decide +kernel
theorem dX10_countRows_4 : decode cX10_countRows 4 = .ok (.iload_n 2, 1) := by decide +kernel
theorem dX10_countRows_5 : decode cX10_countRows 5 = .ok (.iconst 4, 1) := by decide +kernel
theorem dX10_countRows_6 : decode cX10_countRows 6 = .ok (.if_icmp .ge 24, 3) := by decide +kernel
theorem dX10_countRows_9 : decode cX10_countRows 9 = .ok (.aload_n 0, 1) := by decide +kernel
theorem dX10_countRows_10 : decode cX10_countRows 10 = .ok (.getfield 41, 3) := by decide +kernel
theorem dX10_countRows_13 : decode cX10_countRows 13 = .ok (.iload_n 2, 1) := by decide +kernel
theorem dX10_countRows_14 : decode cX10_countRows 14 = .ok (.aaload, 1) := by decide +kernel
theorem dX10_countRows_15 : decode cX10_countRows 15 = .ok (.getfield 354, 3) := by decide +kernel
theorem dX10_countRows_18 : decode cX10_countRows 18 = .ok (.ifCond .eq 6, 3) := by decide +kernel
theorem dX10_countRows_24 : decode cX10_countRows 24 = .ok (.iinc 2 1, 3) := by decide +kernel
theorem dX10_countRows_27 : decode cX10_countRows 27 = .ok (.goto (-23), 3) := by decide +kernel
theorem dX10_countRows_30 : decode cX10_countRows 30 = .ok (.iload_n 1, 1) := by decide +kernel
theorem dX10_countRows_31 : decode cX10_countRows 31 = .ok (.ireturn, 1) := by decide +kernel
theorem dX10_room_0 : decode cX10_room 0 = .ok (.aload_n 0, 1) := by decide +kernel
theorem dX10_room_1 : decode cX10_room 1 = .ok (.iload_n 1, 1) := by decide +kernel
theorem dX10_room_2 : decode cX10_room 2 = .ok (.invokevirtual 120, 3) := by decide +kernel
theorem dX10_room_5 : decode cX10_room 5 = .ok (.ifCond .eq 12, 3) := by decide +kernel
theorem dX10_room_17 : decode cX10_room 17 = .ok (.bipush (-2), 2) := by decide +kernel
theorem dX10_room_19 : decode cX10_room 19 = .ok (.ireturn, 1) := by decide +kernel
theorem dX10_man_0 : decode cX10_man 0 = .ok (.aload_n 0, 1) := by decide +kernel
theorem dX10_man_1 : decode cX10_man 1 = .ok (.iload_n 1, 1) := by decide +kernel
theorem dX10_man_2 : decode cX10_man 2 = .ok (.invokevirtual 128, 3) := by decide +kernel
theorem dX10_man_5 : decode cX10_man 5 = .ok (.ifCond .eq 12, 3) := by decide +kernel
theorem dX10_man_17 : decode cX10_man 17 = .ok (.bipush (-2), 2) := by decide +kernel
theorem dX10_man_19 : decode cX10_man 19 = .ok (.ireturn, 1) := by decide +kernel
theorem dX10_slate_0 : decode cX10_slate 0 = .ok (.aload_n 0, 1) := by decide +kernel
theorem dX10_slate_1 : decode cX10_slate 1 = .ok (.iload_n 1, 1) := by decide +kernel
theorem dX10_slate_2 : decode cX10_slate 2 = .ok (.invokevirtual 128, 3) := by decide +kernel
theorem dX10_slate_5 : decode cX10_slate 5 = .ok (.ifCond .eq 11, 3) := by decide +kernel
theorem dX10_slate_16 : decode cX10_slate 16 = .ok (.bipush (-2), 2) := by decide +kernel
theorem dX10_slate_18 : decode cX10_slate 18 = .ok (.ireturn, 1) := by decide +kernel
theorem dX10_hears_0 : decode cX10_hears 0 = .ok (.aload_n 0, 1) := by decide +kernel
theorem dX10_hears_1 : decode cX10_hears 1 = .ok (.iload_n 1, 1) := by decide +kernel
theorem dX10_hears_2 : decode cX10_hears 2 = .ok (.invokevirtual 120, 3) := by decide +kernel
theorem dX10_hears_5 : decode cX10_hears 5 = .ok (.ifCond .eq 13, 3) := by decide +kernel
theorem dX10_hears_18 : decode cX10_hears 18 = .ok (.bipush (-2), 2) := by decide +kernel
theorem dX10_hears_20 : decode cX10_hears 20 = .ok (.ireturn, 1) := by decide +kernel
theorem dX10_parts_0 : decode cX10_parts 0 = .ok (.aload_n 0, 1) := by decide +kernel
theorem dX10_parts_1 : decode cX10_parts 1 = .ok (.iload_n 1, 1) := by decide +kernel
theorem dX10_parts_2 : decode cX10_parts 2 = .ok (.invokevirtual 145, 3) := by decide +kernel
theorem dX10_parts_5 : decode cX10_parts 5 = .ok (.ifCond .eq 14, 3) := by decide +kernel
theorem dX10_parts_19 : decode cX10_parts 19 = .ok (.bipush (-2), 2) := by decide +kernel
theorem dX10_parts_21 : decode cX10_parts 21 = .ok (.ireturn, 1) := by decide +kernel
theorem dX10_found_0 : decode cX10_found 0 = .ok (.aload_n 0, 1) := by decide +kernel
theorem dX10_found_1 : decode cX10_found 1 = .ok (.invokevirtual 152, 3) := by decide +kernel
theorem dX10_found_4 : decode cX10_found 4 = .ok (.ifCond .eq 13, 3) := by decide +kernel
theorem dX10_found_17 : decode cX10_found 17 = .ok (.bipush (-2), 2) := by decide +kernel
theorem dX10_found_19 : decode cX10_found 19 = .ok (.ireturn, 1) := by decide +kernel
theorem dX10_likely_0 : decode cX10_likely 0 = .ok (.aload_n 0, 1) := by decide +kernel
theorem dX10_likely_1 : decode cX10_likely 1 = .ok (.invokevirtual 152, 3) := by decide +kernel
theorem dX10_likely_4 : decode cX10_likely 4 = .ok (.ifCond .ne 6, 3) := by decide +kernel
theorem dX10_likely_7 : decode cX10_likely 7 = .ok (.bipush (-2), 2) := by decide +kernel
theorem dX10_likely_9 : decode cX10_likely 9 = .ok (.ireturn, 1) := by decide +kernel
theorem dX10_here_0 : decode cX10_here 0 = .ok (.aload_n 0, 1) := by decide +kernel
theorem dX10_here_1 : decode cX10_here 1 = .ok (.invokevirtual 152, 3) := by decide +kernel
theorem dX10_here_4 : decode cX10_here 4 = .ok (.ifCond .eq 13, 3) := by decide +kernel
theorem dX10_here_17 : decode cX10_here 17 = .ok (.bipush (-2), 2) := by decide +kernel
theorem dX10_here_19 : decode cX10_here 19 = .ok (.ireturn, 1) := by decide +kernel
theorem dX10_chance_0 : decode cX10_chance 0 = .ok (.aload_n 0, 1) := by decide +kernel
theorem dX10_chance_1 : decode cX10_chance 1 = .ok (.iload_n 1, 1) := by decide +kernel
theorem dX10_chance_2 : decode cX10_chance 2 = .ok (.invokevirtual 145, 3) := by decide +kernel
theorem dX10_chance_5 : decode cX10_chance 5 = .ok (.ifCond .eq 21, 3) := by decide +kernel
theorem dX10_chance_26 : decode cX10_chance 26 = .ok (.bipush (-2), 2) := by decide +kernel
theorem dX10_chance_28 : decode cX10_chance 28 = .ok (.ireturn, 1) := by decide +kernel
theorem dX10_call_0 : decode cX10_call 0 = .ok (.aload_n 0, 1) := by decide +kernel
theorem dX10_call_1 : decode cX10_call 1 = .ok (.iload_n 1, 1) := by decide +kernel
theorem dX10_call_2 : decode cX10_call 2 = .ok (.invokevirtual 145, 3) := by decide +kernel
theorem dX10_call_5 : decode cX10_call 5 = .ok (.ifCond .ne 6, 3) := by decide +kernel
theorem dX10_call_8 : decode cX10_call 8 = .ok (.bipush (-2), 2) := by decide +kernel
theorem dX10_call_10 : decode cX10_call 10 = .ok (.ireturn, 1) := by decide +kernel
theorem dX10_undo_0 : decode cX10_undo 0 = .ok (.aload_n 0, 1) := by decide +kernel
theorem dX10_undo_1 : decode cX10_undo 1 = .ok (.invokevirtual 152, 3) := by decide +kernel
theorem dX10_undo_4 : decode cX10_undo 4 = .ok (.ifCond .ne 6, 3) := by decide +kernel
theorem dX10_undo_7 : decode cX10_undo 7 = .ok (.bipush (-2), 2) := by decide +kernel
theorem dX10_undo_9 : decode cX10_undo 9 = .ok (.ireturn, 1) := by decide +kernel
theorem dX10_anew_0 : decode cX10_anew 0 = .ok (.aload_n 0, 1) := by decide +kernel
theorem dX10_anew_1 : decode cX10_anew 1 = .ok (.invokevirtual 152, 3) := by decide +kernel
theorem dX10_anew_4 : decode cX10_anew 4 = .ok (.ifCond .ne 6, 3) := by decide +kernel
theorem dX10_anew_7 : decode cX10_anew 7 = .ok (.bipush (-2), 2) := by decide +kernel
theorem dX10_anew_9 : decode cX10_anew 9 = .ok (.ireturn, 1) := by decide +kernel
theorem dX10_later_0 : decode cX10_later 0 = .ok (.aload_n 0, 1) := by decide +kernel
theorem dX10_later_1 : decode cX10_later 1 = .ok (.iload_n 1, 1) := by decide +kernel
theorem dX10_later_2 : decode cX10_later 2 = .ok (.invokevirtual 145, 3) := by decide +kernel
theorem dX10_later_5 : decode cX10_later 5 = .ok (.ifCond .eq 14, 3) := by decide +kernel
theorem dX10_later_19 : decode cX10_later 19 = .ok (.bipush (-2), 2) := by decide +kernel
theorem dX10_later_21 : decode cX10_later 21 = .ok (.ireturn, 1) := by decide +kernel
theorem dX10_round_0 : decode cX10_round 0 = .ok (.aload_n 0, 1) := by decide +kernel
theorem dX10_round_1 : decode cX10_round 1 = .ok (.iload_n 1, 1) := by decide +kernel
theorem dX10_round_2 : decode cX10_round 2 = .ok (.iconst 1, 1) := by decide +kernel
theorem dX10_round_3 : decode cX10_round 3 = .ok (.invokevirtual 186, 3) := by decide +kernel
theorem dX10_round_6 : decode cX10_round 6 = .ok (.istore_n 2, 1) := by decide +kernel
theorem dX10_round_7 : decode cX10_round 7 = .ok (.iload_n 2, 1) := by decide +kernel
theorem dX10_round_8 : decode cX10_round 8 = .ok (.ifCond .eq 7, 3) := by decide +kernel
theorem dX10_round_11 : decode cX10_round 11 = .ok (.iload_n 2, 1) := by decide +kernel
theorem dX10_round_12 : decode cX10_round 12 = .ok (.goto 14, 3) := by decide +kernel
theorem dX10_round_26 : decode cX10_round 26 = .ok (.ireturn, 1) := by decide +kernel
theorem dX10_behind_0 : decode cX10_behind 0 = .ok (.aload_n 0, 1) := by decide +kernel
theorem dX10_behind_1 : decode cX10_behind 1 = .ok (.iload_n 1, 1) := by decide +kernel
theorem dX10_behind_2 : decode cX10_behind 2 = .ok (.aload_n 0, 1) := by decide +kernel
theorem dX10_behind_3 : decode cX10_behind 3 = .ok (.iload_n 2, 1) := by decide +kernel
theorem dX10_behind_4 : decode cX10_behind 4 = .ok (.invokevirtual 120, 3) := by decide +kernel
theorem dX10_behind_7 : decode cX10_behind 7 = .ok (.invokevirtual 186, 3) := by decide +kernel
theorem dX10_behind_10 : decode cX10_behind 10 = .ok (.istore_n 3, 1) := by decide +kernel
theorem dX10_behind_11 : decode cX10_behind 11 = .ok (.iload_n 3, 1) := by decide +kernel
theorem dX10_behind_12 : decode cX10_behind 12 = .ok (.ifCond .eq 5, 3) := by decide +kernel
theorem dX10_behind_15 : decode cX10_behind 15 = .ok (.iload_n 3, 1) := by decide +kernel
theorem dX10_behind_16 : decode cX10_behind 16 = .ok (.ireturn, 1) := by decide +kernel
theorem dX10_disturbs_0 : decode cX10_disturbs 0 = .ok (.aload_n 0, 1) := by decide +kernel
theorem dX10_disturbs_1 : decode cX10_disturbs 1 = .ok (.iload_n 1, 1) := by decide +kernel
theorem dX10_disturbs_2 : decode cX10_disturbs 2 = .ok (.iconst 1, 1) := by decide +kernel
theorem dX10_disturbs_3 : decode cX10_disturbs 3 = .ok (.invokevirtual 186, 3) := by decide +kernel
theorem dX10_disturbs_6 : decode cX10_disturbs 6 = .ok (.istore_n 2, 1) := by decide +kernel
theorem dX10_disturbs_7 : decode cX10_disturbs 7 = .ok (.iload_n 2, 1) := by decide +kernel
theorem dX10_disturbs_8 : decode cX10_disturbs 8 = .ok (.ifCond .eq 5, 3) := by decide +kernel
theorem dX10_disturbs_11 : decode cX10_disturbs 11 = .ok (.iload_n 2, 1) := by decide +kernel
theorem dX10_disturbs_12 : decode cX10_disturbs 12 = .ok (.ireturn, 1) := by decide +kernel
theorem dX10_stop_0 : decode cX10_stop 0 = .ok (.aload_n 0, 1) := by decide +kernel
theorem dX10_stop_1 : decode cX10_stop 1 = .ok (.iload_n 1, 1) := by decide +kernel
theorem dX10_stop_2 : decode cX10_stop 2 = .ok (.iconst 1, 1) := by decide +kernel
theorem dX10_stop_3 : decode cX10_stop 3 = .ok (.invokevirtual 186, 3) := by decide +kernel
theorem dX10_stop_6 : decode cX10_stop 6 = .ok (.istore_n 2, 1) := by decide +kernel
theorem dX10_stop_7 : decode cX10_stop 7 = .ok (.iload_n 2, 1) := by decide +kernel
theorem dX10_stop_8 : decode cX10_stop 8 = .ok (.ifCond .eq 5, 3) := by decide +kernel
theorem dX10_stop_11 : decode cX10_stop 11 = .ok (.iload_n 2, 1) := by decide +kernel
theorem dX10_stop_12 : decode cX10_stop 12 = .ok (.ireturn, 1) := by decide +kernel
theorem dX10_doubt_0 : decode cX10_doubt 0 = .ok (.aload_n 0, 1) := by decide +kernel
theorem dX10_doubt_1 : decode cX10_doubt 1 = .ok (.iload_n 1, 1) := by decide +kernel
theorem dX10_doubt_2 : decode cX10_doubt 2 = .ok (.aload_n 0, 1) := by decide +kernel
theorem dX10_doubt_3 : decode cX10_doubt 3 = .ok (.iload_n 2, 1) := by decide +kernel
theorem dX10_doubt_4 : decode cX10_doubt 4 = .ok (.invokevirtual 205, 3) := by decide +kernel
theorem dX10_doubt_7 : decode cX10_doubt 7 = .ok (.invokevirtual 186, 3) := by decide +kernel
theorem dX10_doubt_10 : decode cX10_doubt 10 = .ok (.istore_n 3, 1) := by decide +kernel
theorem dX10_doubt_11 : decode cX10_doubt 11 = .ok (.iload_n 3, 1) := by decide +kernel
theorem dX10_doubt_12 : decode cX10_doubt 12 = .ok (.ifCond .eq 5, 3) := by decide +kernel
theorem dX10_doubt_15 : decode cX10_doubt 15 = .ok (.iload_n 3, 1) := by decide +kernel
theorem dX10_doubt_16 : decode cX10_doubt 16 = .ok (.ireturn, 1) := by decide +kernel
theorem dX10_walks_0 : decode cX10_walks 0 = .ok (.aload_n 0, 1) := by decide +kernel
theorem dX10_walks_1 : decode cX10_walks 1 = .ok (.iload_n 1, 1) := by decide +kernel
theorem dX10_walks_2 : decode cX10_walks 2 = .ok (.aload_n 0, 1) := by decide +kernel
theorem dX10_walks_3 : decode cX10_walks 3 = .ok (.iload_n 2, 1) := by decide +kernel
theorem dX10_walks_4 : decode cX10_walks 4 = .ok (.invokevirtual 120, 3) := by decide +kernel
theorem dX10_walks_7 : decode cX10_walks 7 = .ok (.invokevirtual 186, 3) := by decide +kernel
theorem dX10_walks_10 : decode cX10_walks 10 = .ok (.istore_n 3, 1) := by decide +kernel
theorem dX10_walks_11 : decode cX10_walks 11 = .ok (.iload_n 3, 1) := by decide +kernel
theorem dX10_walks_12 : decode cX10_walks 12 = .ok (.ifCond .eq 5, 3) := by decide +kernel
theorem dX10_walks_15 : decode cX10_walks 15 = .ok (.iload_n 3, 1) := by decide +kernel
theorem dX10_walks_16 : decode cX10_walks 16 = .ok (.ireturn, 1) := by decide +kernel
theorem dX10_penny_0 : decode cX10_penny 0 = .ok (.aload_n 0, 1) := by decide +kernel
theorem dX10_penny_1 : decode cX10_penny 1 = .ok (.iload_n 1, 1) := by decide +kernel
theorem dX10_penny_2 : decode cX10_penny 2 = .ok (.iconst 1, 1) := by decide +kernel
theorem dX10_penny_3 : decode cX10_penny 3 = .ok (.invokevirtual 186, 3) := by decide +kernel
theorem dX10_penny_6 : decode cX10_penny 6 = .ok (.istore_n 2, 1) := by decide +kernel
theorem dX10_penny_7 : decode cX10_penny 7 = .ok (.iload_n 2, 1) := by decide +kernel
theorem dX10_penny_8 : decode cX10_penny 8 = .ok (.ifCond .eq 5, 3) := by decide +kernel
theorem dX10_penny_11 : decode cX10_penny 11 = .ok (.iload_n 2, 1) := by decide +kernel
theorem dX10_penny_12 : decode cX10_penny 12 = .ok (.ireturn, 1) := by decide +kernel
theorem dX10_best_0 : decode cX10_best 0 = .ok (.aload_n 0, 1) := by decide +kernel
theorem dX10_best_1 : decode cX10_best 1 = .ok (.iload_n 1, 1) := by decide +kernel
theorem dX10_best_2 : decode cX10_best 2 = .ok (.invokevirtual 120, 3) := by decide +kernel
theorem dX10_best_5 : decode cX10_best 5 = .ok (.ifCond .eq 11, 3) := by decide +kernel
theorem dX10_best_16 : decode cX10_best 16 = .ok (.bipush (-2), 2) := by decide +kernel
theorem dX10_best_18 : decode cX10_best 18 = .ok (.ireturn, 1) := by decide +kernel
theorem dX10_goes_0 : decode cX10_goes 0 = .ok (.aload_n 0, 1) := by decide +kernel
theorem dX10_goes_1 : decode cX10_goes 1 = .ok (.iload_n 1, 1) := by decide +kernel
theorem dX10_goes_2 : decode cX10_goes 2 = .ok (.invokevirtual 120, 3) := by decide +kernel
theorem dX10_goes_5 : decode cX10_goes 5 = .ok (.ifCond .eq 11, 3) := by decide +kernel
theorem dX10_goes_16 : decode cX10_goes 16 = .ok (.bipush (-2), 2) := by decide +kernel
theorem dX10_goes_18 : decode cX10_goes 18 = .ok (.ireturn, 1) := by decide +kernel
theorem dX10_begins_0 : decode cX10_begins 0 = .ok (.aload_n 0, 1) := by decide +kernel
theorem dX10_begins_1 : decode cX10_begins 1 = .ok (.getfield 31, 3) := by decide +kernel
theorem dX10_begins_4 : decode cX10_begins 4 = .ok (.getfield 98, 3) := by decide +kernel
theorem dX10_begins_7 : decode cX10_begins 7 = .ok (.getfield 159, 3) := by decide +kernel
theorem dX10_begins_10 : decode cX10_begins 10 = .ok (.iconst 1, 1) := by decide +kernel
theorem dX10_begins_11 : decode cX10_begins 11 = .ok (.if_icmp .lt 11, 3) := by decide +kernel
theorem dX10_begins_22 : decode cX10_begins 22 = .ok (.bipush (-2), 2) := by decide +kernel
theorem dX10_begins_24 : decode cX10_begins 24 = .ok (.ireturn, 1) := by decide +kernel
theorem dX10_soon_0 : decode cX10_soon 0 = .ok (.aload_n 0, 1) := by decide +kernel
theorem dX10_soon_1 : decode cX10_soon 1 = .ok (.iload_n 1, 1) := by decide +kernel
theorem dX10_soon_2 : decode cX10_soon 2 = .ok (.invokevirtual 120, 3) := by decide +kernel
theorem dX10_soon_5 : decode cX10_soon 5 = .ok (.ifCond .eq 11, 3) := by decide +kernel
theorem dX10_soon_16 : decode cX10_soon 16 = .ok (.bipush (-2), 2) := by decide +kernel
theorem dX10_soon_18 : decode cX10_soon 18 = .ok (.ireturn, 1) := by decide +kernel
theorem dX10_far_0 : decode cX10_far 0 = .ok (.aload_n 0, 1) := by decide +kernel
theorem dX10_far_1 : decode cX10_far 1 = .ok (.iload_n 1, 1) := by decide +kernel
theorem dX10_far_2 : decode cX10_far 2 = .ok (.invokevirtual 120, 3) := by decide +kernel
theorem dX10_far_5 : decode cX10_far 5 = .ok (.ifCond .eq 11, 3) := by decide +kernel
theorem dX10_far_16 : decode cX10_far 16 = .ok (.bipush (-2), 2) := by decide +kernel
theorem dX10_far_18 : decode cX10_far 18 = .ok (.ireturn, 1) := by decide +kernel
theorem dX10_hangs_0 : decode cX10_hangs 0 = .ok (.aload_n 0, 1) := by decide +kernel
theorem dX10_hangs_1 : decode cX10_hangs 1 = .ok (.iload_n 1, 1) := by decide +kernel
theorem dX10_hangs_2 : decode cX10_hangs 2 = .ok (.iconst 1, 1) := by decide +kernel
theorem dX10_hangs_3 : decode cX10_hangs 3 = .ok (.invokevirtual 186, 3) := by decide +kernel
theorem dX10_hangs_6 : decode cX10_hangs 6 = .ok (.istore_n 2, 1) := by decide +kernel
theorem dX10_hangs_7 : decode cX10_hangs 7 = .ok (.iload_n 2, 1) := by decide +kernel
theorem dX10_hangs_8 : decode cX10_hangs 8 = .ok (.ifCond .eq 5, 3) := by decide +kernel
theorem dX10_hangs_11 : decode cX10_hangs 11 = .ok (.iload_n 2, 1) := by decide +kernel
theorem dX10_hangs_12 : decode cX10_hangs 12 = .ok (.ireturn, 1) := by decide +kernel
theorem dX10_rest_0 : decode cX10_rest 0 = .ok (.aload_n 0, 1) := by decide +kernel
theorem dX10_rest_1 : decode cX10_rest 1 = .ok (.invokevirtual 152, 3) := by decide +kernel
theorem dX10_rest_4 : decode cX10_rest 4 = .ok (.ifCond .ne 6, 3) := by decide +kernel
theorem dX10_rest_7 : decode cX10_rest 7 = .ok (.bipush (-2), 2) := by decide +kernel
theorem dX10_rest_9 : decode cX10_rest 9 = .ok (.ireturn, 1) := by decide +kernel
theorem dX10_trumpet_0 : decode cX10_trumpet 0 = .ok (.aload_n 0, 1) := by decide +kernel
theorem dX10_trumpet_1 : decode cX10_trumpet 1 = .ok (.invokevirtual 152, 3) := by decide +kernel
theorem dX10_trumpet_4 : decode cX10_trumpet 4 = .ok (.ifCond .eq 20, 3) := by decide +kernel
theorem dX10_trumpet_24 : decode cX10_trumpet 24 = .ok (.bipush (-2), 2) := by decide +kernel
theorem dX10_trumpet_26 : decode cX10_trumpet 26 = .ok (.ireturn, 1) := by decide +kernel
theorem dX10_quiet_0 : decode cX10_quiet 0 = .ok (.aload_n 0, 1) := by decide +kernel
theorem dX10_quiet_1 : decode cX10_quiet 1 = .ok (.invokevirtual 152, 3) := by decide +kernel
theorem dX10_quiet_4 : decode cX10_quiet 4 = .ok (.ifCond .eq 11, 3) := by decide +kernel
theorem dX10_quiet_15 : decode cX10_quiet 15 = .ok (.bipush (-2), 2) := by decide +kernel
theorem dX10_quiet_17 : decode cX10_quiet 17 = .ok (.ireturn, 1) := by decide +kernel
theorem dX10_quietly_0 : decode cX10_quietly 0 = .ok (.aload_n 0, 1) := by decide +kernel
theorem dX10_quietly_1 : decode cX10_quietly 1 = .ok (.invokevirtual 152, 3) := by decide +kernel
theorem dX10_quietly_4 : decode cX10_quietly 4 = .ok (.ifCond .eq 11, 3) := by decide +kernel
theorem dX10_quietly_15 : decode cX10_quietly 15 = .ok (.bipush (-2), 2) := by decide +kernel
theorem dX10_quietly_17 : decode cX10_quietly 17 = .ok (.ireturn, 1) := by decide +kernel
theorem dX10_card_0 : decode cX10_card 0 = .ok (.aload_n 0, 1) := by decide +kernel
theorem dX10_card_1 : decode cX10_card 1 = .ok (.iload_n 1, 1) := by decide +kernel
theorem dX10_card_2 : decode cX10_card 2 = .ok (.invokevirtual 120, 3) := by decide +kernel
theorem dX10_card_5 : decode cX10_card 5 = .ok (.ifCond .eq 14, 3) := by decide +kernel
theorem dX10_card_19 : decode cX10_card 19 = .ok (.bipush (-2), 2) := by decide +kernel
theorem dX10_card_21 : decode cX10_card 21 = .ok (.ireturn, 1) := by decide +kernel
theorem dX10_desk_0 : decode cX10_desk 0 = .ok (.aload_n 0, 1) := by decide +kernel
theorem dX10_desk_1 : decode cX10_desk 1 = .ok (.getfield 31, 3) := by decide +kernel
theorem dX10_desk_4 : decode cX10_desk 4 = .ok (.getfield 98, 3) := by decide +kernel
theorem dX10_desk_7 : decode cX10_desk 7 = .ok (.getfield 159, 3) := by decide +kernel
theorem dX10_desk_10 : decode cX10_desk 10 = .ok (.iconst 1, 1) := by decide +kernel
theorem dX10_desk_11 : decode cX10_desk 11 = .ok (.if_icmp .lt 14, 3) := by decide +kernel
theorem dX10_desk_25 : decode cX10_desk 25 = .ok (.bipush (-2), 2) := by decide +kernel
theorem dX10_desk_27 : decode cX10_desk 27 = .ok (.ireturn, 1) := by decide +kernel
theorem dX10_one_0 : decode cX10_one 0 = .ok (.aload_n 0, 1) := by decide +kernel
theorem dX10_one_1 : decode cX10_one 1 = .ok (.iload_n 1, 1) := by decide +kernel
theorem dX10_one_2 : decode cX10_one 2 = .ok (.invokevirtual 120, 3) := by decide +kernel
theorem dX10_one_5 : decode cX10_one 5 = .ok (.ifCond .ne 6, 3) := by decide +kernel
theorem dX10_one_8 : decode cX10_one 8 = .ok (.bipush (-2), 2) := by decide +kernel
theorem dX10_one_10 : decode cX10_one 10 = .ok (.ireturn, 1) := by decide +kernel
theorem dX10_two_0 : decode cX10_two 0 = .ok (.aload_n 0, 1) := by decide +kernel
theorem dX10_two_1 : decode cX10_two 1 = .ok (.iload_n 1, 1) := by decide +kernel
theorem dX10_two_2 : decode cX10_two 2 = .ok (.invokevirtual 120, 3) := by decide +kernel
theorem dX10_two_5 : decode cX10_two 5 = .ok (.ifCond .eq 11, 3) := by decide +kernel
theorem dX10_two_16 : decode cX10_two 16 = .ok (.bipush (-2), 2) := by decide +kernel
theorem dX10_two_18 : decode cX10_two 18 = .ok (.ireturn, 1) := by decide +kernel
theorem dX10_way_0 : decode cX10_way 0 = .ok (.aload_n 0, 1) := by decide +kernel
theorem dX10_way_1 : decode cX10_way 1 = .ok (.iload_n 1, 1) := by decide +kernel
theorem dX10_way_2 : decode cX10_way 2 = .ok (.invokevirtual 120, 3) := by decide +kernel
theorem dX10_way_5 : decode cX10_way 5 = .ok (.ifCond .eq 20, 3) := by decide +kernel
theorem dX10_way_25 : decode cX10_way 25 = .ok (.bipush (-2), 2) := by decide +kernel
theorem dX10_way_27 : decode cX10_way 27 = .ok (.ireturn, 1) := by decide +kernel
theorem dX10_slips_0 : decode cX10_slips 0 = .ok (.aload_n 0, 1) := by decide +kernel
theorem dX10_slips_1 : decode cX10_slips 1 = .ok (.iload_n 1, 1) := by decide +kernel
theorem dX10_slips_2 : decode cX10_slips 2 = .ok (.aload_n 0, 1) := by decide +kernel
theorem dX10_slips_3 : decode cX10_slips 3 = .ok (.iload_n 2, 1) := by decide +kernel
theorem dX10_slips_4 : decode cX10_slips 4 = .ok (.invokevirtual 120, 3) := by decide +kernel
theorem dX10_slips_7 : decode cX10_slips 7 = .ok (.invokevirtual 186, 3) := by decide +kernel
theorem dX10_slips_10 : decode cX10_slips 10 = .ok (.istore_n 3, 1) := by decide +kernel
theorem dX10_slips_11 : decode cX10_slips 11 = .ok (.iload_n 3, 1) := by decide +kernel
theorem dX10_slips_12 : decode cX10_slips 12 = .ok (.ifCond .eq 5, 3) := by decide +kernel
theorem dX10_slips_15 : decode cX10_slips 15 = .ok (.iload_n 3, 1) := by decide +kernel
theorem dX10_slips_16 : decode cX10_slips 16 = .ok (.ireturn, 1) := by decide +kernel
theorem dX10_boys_0 : decode cX10_boys 0 = .ok (.aload_n 0, 1) := by decide +kernel
theorem dX10_boys_1 : decode cX10_boys 1 = .ok (.getfield 31, 3) := by decide +kernel
theorem dX10_boys_4 : decode cX10_boys 4 = .ok (.getfield 98, 3) := by decide +kernel
theorem dX10_boys_7 : decode cX10_boys 7 = .ok (.getfield 159, 3) := by decide +kernel
theorem dX10_boys_10 : decode cX10_boys 10 = .ok (.iconst 1, 1) := by decide +kernel
theorem dX10_boys_11 : decode cX10_boys 11 = .ok (.if_icmp .ge 6, 3) := by decide +kernel
theorem dX10_boys_14 : decode cX10_boys 14 = .ok (.bipush (-2), 2) := by decide +kernel
theorem dX10_boys_16 : decode cX10_boys 16 = .ok (.ireturn, 1) := by decide +kernel
theorem dX10_pairs_0 : decode cX10_pairs 0 = .ok (.aload_n 0, 1) := by decide +kernel
theorem dX10_pairs_1 : decode cX10_pairs 1 = .ok (.getfield 31, 3) := by decide +kernel
theorem dX10_pairs_4 : decode cX10_pairs 4 = .ok (.getfield 98, 3) := by decide +kernel
theorem dX10_pairs_7 : decode cX10_pairs 7 = .ok (.getfield 159, 3) := by decide +kernel
theorem dX10_pairs_10 : decode cX10_pairs 10 = .ok (.iconst 1, 1) := by decide +kernel
theorem dX10_pairs_11 : decode cX10_pairs 11 = .ok (.if_icmp .ge 8, 3) := by decide +kernel
theorem dX10_pairs_14 : decode cX10_pairs 14 = .ok (.bipush (-2), 2) := by decide +kernel
theorem dX10_pairs_16 : decode cX10_pairs 16 = .ok (.goto 17, 3) := by decide +kernel
theorem dX10_pairs_33 : decode cX10_pairs 33 = .ok (.ireturn, 1) := by decide +kernel
theorem dX10_which_0 : decode cX10_which 0 = .ok (.aload_n 0, 1) := by decide +kernel
theorem dX10_which_1 : decode cX10_which 1 = .ok (.iload_n 1, 1) := by decide +kernel
theorem dX10_which_2 : decode cX10_which 2 = .ok (.invokevirtual 267, 3) := by decide +kernel
theorem dX10_which_5 : decode cX10_which 5 = .ok (.ifCond .eq 21, 3) := by decide +kernel
theorem dX10_which_26 : decode cX10_which 26 = .ok (.bipush (-2), 2) := by decide +kernel
theorem dX10_which_28 : decode cX10_which 28 = .ok (.ireturn, 1) := by decide +kernel
theorem dX10_question_0 : decode cX10_question 0 = .ok (.aload_n 0, 1) := by decide +kernel
theorem dX10_question_1 : decode cX10_question 1 = .ok (.iload_n 1, 1) := by decide +kernel
theorem dX10_question_2 : decode cX10_question 2 = .ok (.invokevirtual 267, 3) := by decide +kernel
theorem dX10_question_5 : decode cX10_question 5 = .ok (.ifCond .eq 21, 3) := by decide +kernel
theorem dX10_question_26 : decode cX10_question 26 = .ok (.bipush (-2), 2) := by decide +kernel
theorem dX10_question_28 : decode cX10_question 28 = .ok (.ireturn, 1) := by decide +kernel
theorem dX10_yes_0 : decode cX10_yes 0 = .ok (.aload_n 0, 1) := by decide +kernel
theorem dX10_yes_1 : decode cX10_yes 1 = .ok (.iload_n 1, 1) := by decide +kernel
theorem dX10_yes_2 : decode cX10_yes 2 = .ok (.invokevirtual 267, 3) := by decide +kernel
theorem dX10_yes_5 : decode cX10_yes 5 = .ok (.ifCond .eq 13, 3) := by decide +kernel
theorem dX10_yes_18 : decode cX10_yes 18 = .ok (.bipush (-2), 2) := by decide +kernel
theorem dX10_yes_20 : decode cX10_yes 20 = .ok (.ireturn, 1) := by decide +kernel
theorem dX10_list_0 : decode cX10_list 0 = .ok (.aload_n 0, 1) := by decide +kernel
theorem dX10_list_1 : decode cX10_list 1 = .ok (.iload_n 1, 1) := by decide +kernel
theorem dX10_list_2 : decode cX10_list 2 = .ok (.invokevirtual 267, 3) := by decide +kernel
theorem dX10_list_5 : decode cX10_list 5 = .ok (.ifCond .eq 21, 3) := by decide +kernel
theorem dX10_list_26 : decode cX10_list 26 = .ok (.bipush (-2), 2) := by decide +kernel
theorem dX10_list_28 : decode cX10_list 28 = .ok (.ireturn, 1) := by decide +kernel
theorem dX10_meant_0 : decode cX10_meant 0 = .ok (.aload_n 0, 1) := by decide +kernel
theorem dX10_meant_1 : decode cX10_meant 1 = .ok (.iload_n 1, 1) := by decide +kernel
theorem dX10_meant_2 : decode cX10_meant 2 = .ok (.invokevirtual 267, 3) := by decide +kernel
theorem dX10_meant_5 : decode cX10_meant 5 = .ok (.ifCond .eq 28, 3) := by decide +kernel
theorem dX10_meant_33 : decode cX10_meant 33 = .ok (.bipush (-2), 2) := by decide +kernel
theorem dX10_meant_35 : decode cX10_meant 35 = .ok (.ireturn, 1) := by decide +kernel
theorem dX10_read_0 : decode cX10_read 0 = .ok (.aload_n 0, 1) := by decide +kernel
theorem dX10_read_1 : decode cX10_read 1 = .ok (.iload_n 1, 1) := by decide +kernel
theorem dX10_read_2 : decode cX10_read 2 = .ok (.invokevirtual 128, 3) := by decide +kernel
theorem dX10_read_5 : decode cX10_read 5 = .ok (.ifCond .eq 20, 3) := by decide +kernel
theorem dX10_read_25 : decode cX10_read 25 = .ok (.ldc2_w 289, 3) := by decide +kernel
theorem dX10_read_28 : decode cX10_read 28 = .ok (.lreturn, 1) := by decide +kernel
theorem dX10_guess_0 : decode cX10_guess 0 = .ok (.aload_n 0, 1) := by decide +kernel
theorem dX10_guess_1 : decode cX10_guess 1 = .ok (.iload_n 1, 1) := by decide +kernel
theorem dX10_guess_2 : decode cX10_guess 2 = .ok (.invokevirtual 128, 3) := by decide +kernel
theorem dX10_guess_5 : decode cX10_guess 5 = .ok (.ifCond .ne 6, 3) := by decide +kernel
theorem dX10_guess_8 : decode cX10_guess 8 = .ok (.bipush (-2), 2) := by decide +kernel
theorem dX10_guess_10 : decode cX10_guess 10 = .ok (.ireturn, 1) := by decide +kernel
theorem dX10_right_0 : decode cX10_right 0 = .ok (.aload_n 0, 1) := by decide +kernel
theorem dX10_right_1 : decode cX10_right 1 = .ok (.getfield 31, 3) := by decide +kernel
theorem dX10_right_4 : decode cX10_right 4 = .ok (.getfield 98, 3) := by decide +kernel
theorem dX10_right_7 : decode cX10_right 7 = .ok (.getfield 283, 3) := by decide +kernel
theorem dX10_right_10 : decode cX10_right 10 = .ok (.iconst 1, 1) := by decide +kernel
theorem dX10_right_11 : decode cX10_right 11 = .ok (.if_icmp .lt 12, 3) := by decide +kernel
theorem dX10_right_23 : decode cX10_right 23 = .ok (.ldc2_w 289, 3) := by decide +kernel
theorem dX10_right_26 : decode cX10_right 26 = .ok (.lreturn, 1) := by decide +kernel
theorem dX10_habit_0 : decode cX10_habit 0 = .ok (.aload_n 0, 1) := by decide +kernel
theorem dX10_habit_1 : decode cX10_habit 1 = .ok (.iload_n 1, 1) := by decide +kernel
theorem dX10_habit_2 : decode cX10_habit 2 = .ok (.iconst 1, 1) := by decide +kernel
theorem dX10_habit_3 : decode cX10_habit 3 = .ok (.invokevirtual 299, 3) := by decide +kernel
theorem dX10_habit_6 : decode cX10_habit 6 = .ok (.istore_n 2, 1) := by decide +kernel
theorem dX10_habit_7 : decode cX10_habit 7 = .ok (.iload_n 2, 1) := by decide +kernel
theorem dX10_habit_8 : decode cX10_habit 8 = .ok (.ifCond .eq 5, 3) := by decide +kernel
theorem dX10_habit_11 : decode cX10_habit 11 = .ok (.iload_n 2, 1) := by decide +kernel
theorem dX10_habit_12 : decode cX10_habit 12 = .ok (.ireturn, 1) := by decide +kernel
theorem dX10_follows_0 : decode cX10_follows 0 = .ok (.aload_n 0, 1) := by decide +kernel
theorem dX10_follows_1 : decode cX10_follows 1 = .ok (.iload_n 1, 1) := by decide +kernel
theorem dX10_follows_2 : decode cX10_follows 2 = .ok (.aload_n 0, 1) := by decide +kernel
theorem dX10_follows_3 : decode cX10_follows 3 = .ok (.iload_n 2, 1) := by decide +kernel
theorem dX10_follows_4 : decode cX10_follows 4 = .ok (.invokevirtual 120, 3) := by decide +kernel
theorem dX10_follows_7 : decode cX10_follows 7 = .ok (.invokevirtual 299, 3) := by decide +kernel
theorem dX10_follows_10 : decode cX10_follows 10 = .ok (.istore_n 3, 1) := by decide +kernel
theorem dX10_follows_11 : decode cX10_follows 11 = .ok (.iload_n 3, 1) := by decide +kernel
theorem dX10_follows_12 : decode cX10_follows 12 = .ok (.ifCond .eq 5, 3) := by decide +kernel
theorem dX10_follows_15 : decode cX10_follows 15 = .ok (.iload_n 3, 1) := by decide +kernel
theorem dX10_follows_16 : decode cX10_follows 16 = .ok (.ireturn, 1) := by decide +kernel
theorem dX10_period_0 : decode cX10_period 0 = .ok (.aload_n 0, 1) := by decide +kernel
theorem dX10_period_1 : decode cX10_period 1 = .ok (.iload_n 1, 1) := by decide +kernel
theorem dX10_period_2 : decode cX10_period 2 = .ok (.iconst 1, 1) := by decide +kernel
theorem dX10_period_3 : decode cX10_period 3 = .ok (.invokevirtual 299, 3) := by decide +kernel
theorem dX10_period_6 : decode cX10_period 6 = .ok (.istore_n 2, 1) := by decide +kernel
theorem dX10_period_7 : decode cX10_period 7 = .ok (.iload_n 2, 1) := by decide +kernel
theorem dX10_period_8 : decode cX10_period 8 = .ok (.ifCond .eq 5, 3) := by decide +kernel
theorem dX10_period_11 : decode cX10_period 11 = .ok (.iload_n 2, 1) := by decide +kernel
theorem dX10_period_12 : decode cX10_period 12 = .ok (.ireturn, 1) := by decide +kernel
theorem dX10_drawn_0 : decode cX10_drawn 0 = .ok (.aload_n 0, 1) := by decide +kernel
theorem dX10_drawn_1 : decode cX10_drawn 1 = .ok (.iload_n 2, 1) := by decide +kernel
theorem dX10_drawn_2 : decode cX10_drawn 2 = .ok (.aload_n 0, 1) := by decide +kernel
theorem dX10_drawn_3 : decode cX10_drawn 3 = .ok (.iload_n 1, 1) := by decide +kernel
theorem dX10_drawn_4 : decode cX10_drawn 4 = .ok (.invokevirtual 308, 3) := by decide +kernel
theorem dX10_drawn_7 : decode cX10_drawn 7 = .ok (.ifCond .eq 16, 3) := by decide +kernel
theorem dX10_drawn_23 : decode cX10_drawn 23 = .ok (.iconst 0, 1) := by decide +kernel
theorem dX10_drawn_24 : decode cX10_drawn 24 = .ok (.invokevirtual 186, 3) := by decide +kernel
theorem dX10_drawn_27 : decode cX10_drawn 27 = .ok (.istore 4, 2) := by decide +kernel
theorem dX10_drawn_29 : decode cX10_drawn 29 = .ok (.iload 4, 2) := by decide +kernel
theorem dX10_drawn_31 : decode cX10_drawn 31 = .ok (.ifCond .eq 6, 3) := by decide +kernel
theorem dX10_drawn_34 : decode cX10_drawn 34 = .ok (.iload 4, 2) := by decide +kernel
theorem dX10_drawn_36 : decode cX10_drawn 36 = .ok (.ireturn, 1) := by decide +kernel
theorem dX10_drawn_10 : decode cX10_drawn 10 = .ok (.iload_n 3, 1) := by decide +kernel
theorem dX10_drawn_11 : decode cX10_drawn 11 = .ok (.ifCond .lt 12, 3) := by decide +kernel
theorem dX10_drawn_14 : decode cX10_drawn 14 = .ok (.iload_n 3, 1) := by decide +kernel
theorem dX10_drawn_15 : decode cX10_drawn 15 = .ok (.iconst 1, 1) := by decide +kernel
theorem dX10_drawn_16 : decode cX10_drawn 16 = .ok (.if_icmp .gt 7, 3) := by decide +kernel
theorem dX10_drawn_19 : decode cX10_drawn 19 = .ok (.iconst 1, 1) := by decide +kernel
theorem dX10_drawn_20 : decode cX10_drawn 20 = .ok (.goto 4, 3) := by decide +kernel
theorem dX10_lot_0 : decode cX10_lot 0 = .ok (.aload_n 0, 1) := by decide +kernel
theorem dX10_lot_1 : decode cX10_lot 1 = .ok (.iload_n 2, 1) := by decide +kernel
theorem dX10_lot_2 : decode cX10_lot 2 = .ok (.aload_n 0, 1) := by decide +kernel
theorem dX10_lot_3 : decode cX10_lot 3 = .ok (.iload_n 1, 1) := by decide +kernel
theorem dX10_lot_4 : decode cX10_lot 4 = .ok (.invokevirtual 308, 3) := by decide +kernel
theorem dX10_lot_7 : decode cX10_lot 7 = .ok (.ifCond .eq 18, 3) := by decide +kernel
theorem dX10_lot_25 : decode cX10_lot 25 = .ok (.iconst 0, 1) := by decide +kernel
theorem dX10_lot_26 : decode cX10_lot 26 = .ok (.invokevirtual 186, 3) := by decide +kernel
theorem dX10_lot_29 : decode cX10_lot 29 = .ok (.istore 4, 2) := by decide +kernel
theorem dX10_lot_31 : decode cX10_lot 31 = .ok (.iload 4, 2) := by decide +kernel
theorem dX10_lot_33 : decode cX10_lot 33 = .ok (.ifCond .eq 6, 3) := by decide +kernel
theorem dX10_lot_36 : decode cX10_lot 36 = .ok (.iload 4, 2) := by decide +kernel
theorem dX10_lot_38 : decode cX10_lot 38 = .ok (.ireturn, 1) := by decide +kernel
theorem dX10_lot_10 : decode cX10_lot 10 = .ok (.iload_n 3, 1) := by decide +kernel
theorem dX10_lot_11 : decode cX10_lot 11 = .ok (.iconst 1, 1) := by decide +kernel
theorem dX10_lot_12 : decode cX10_lot 12 = .ok (.if_icmp .lt 13, 3) := by decide +kernel
theorem dX10_lot_15 : decode cX10_lot 15 = .ok (.iload_n 3, 1) := by decide +kernel
theorem dX10_lot_16 : decode cX10_lot 16 = .ok (.bipush 20, 2) := by decide +kernel
theorem dX10_lot_18 : decode cX10_lot 18 = .ok (.if_icmp .gt 7, 3) := by decide +kernel
theorem dX10_lot_21 : decode cX10_lot 21 = .ok (.iconst 1, 1) := by decide +kernel
theorem dX10_lot_22 : decode cX10_lot 22 = .ok (.goto 4, 3) := by decide +kernel
theorem dX10_tell_0 : decode cX10_tell 0 = .ok (.aload_n 0, 1) := by decide +kernel
theorem dX10_tell_1 : decode cX10_tell 1 = .ok (.iload_n 1, 1) := by decide +kernel
theorem dX10_tell_2 : decode cX10_tell 2 = .ok (.invokevirtual 120, 3) := by decide +kernel
theorem dX10_tell_5 : decode cX10_tell 5 = .ok (.ifCond .eq 24, 3) := by decide +kernel
theorem dX10_tell_29 : decode cX10_tell 29 = .ok (.bipush (-2), 2) := by decide +kernel
theorem dX10_tell_31 : decode cX10_tell 31 = .ok (.ireturn, 1) := by decide +kernel
theorem dX10_shut_0 : decode cX10_shut 0 = .ok (.aload_n 0, 1) := by decide +kernel
theorem dX10_shut_1 : decode cX10_shut 1 = .ok (.iload_n 1, 1) := by decide +kernel
theorem dX10_shut_2 : decode cX10_shut 2 = .ok (.invokevirtual 120, 3) := by decide +kernel
theorem dX10_shut_5 : decode cX10_shut 5 = .ok (.ifCond .eq 25, 3) := by decide +kernel
theorem dX10_shut_30 : decode cX10_shut 30 = .ok (.bipush (-2), 2) := by decide +kernel
theorem dX10_shut_32 : decode cX10_shut 32 = .ok (.ireturn, 1) := by decide +kernel
theorem dX10_gain_0 : decode cX10_gain 0 = .ok (.aload_n 0, 1) := by decide +kernel
theorem dX10_gain_1 : decode cX10_gain 1 = .ok (.iload_n 1, 1) := by decide +kernel
theorem dX10_gain_2 : decode cX10_gain 2 = .ok (.iconst 1, 1) := by decide +kernel
theorem dX10_gain_3 : decode cX10_gain 3 = .ok (.invokevirtual 186, 3) := by decide +kernel
theorem dX10_gain_6 : decode cX10_gain 6 = .ok (.istore_n 2, 1) := by decide +kernel
theorem dX10_gain_7 : decode cX10_gain 7 = .ok (.iload_n 2, 1) := by decide +kernel
theorem dX10_gain_8 : decode cX10_gain 8 = .ok (.ifCond .eq 8, 3) := by decide +kernel
theorem dX10_gain_11 : decode cX10_gain 11 = .ok (.iload_n 2, 1) := by decide +kernel
theorem dX10_gain_12 : decode cX10_gain 12 = .ok (.ldc 201, 2) := by decide +kernel
theorem dX10_gain_14 : decode cX10_gain 14 = .ok (.imul, 1) := by decide +kernel
theorem dX10_gain_15 : decode cX10_gain 15 = .ok (.ireturn, 1) := by decide +kernel
theorem dX10_count_0 : decode cX10_count 0 = .ok (.iload_n 1, 1) := by decide +kernel
theorem dX10_count_1 : decode cX10_count 1 = .ok (.tableswitch 127 0 7 #[47, 58, 69, 80, 95, 106, 114, 122], 47) := by decide +kernel
theorem dX10_count_128 : decode cX10_count 128 = .ok (.iconst (-1), 1) := by decide +kernel
theorem dX10_count_129 : decode cX10_count 129 = .ok (.ireturn, 1) := by decide +kernel
theorem dX10_count_48 : decode cX10_count 48 = .ok (.aload_n 0, 1) := by decide +kernel
theorem dX10_count_49 : decode cX10_count 49 = .ok (.getfield 31, 3) := by decide +kernel
theorem dX10_count_52 : decode cX10_count 52 = .ok (.getfield 98, 3) := by decide +kernel
theorem dX10_count_55 : decode cX10_count 55 = .ok (.getfield 159, 3) := by decide +kernel
theorem dX10_count_58 : decode cX10_count 58 = .ok (.ireturn, 1) := by decide +kernel
theorem dX10_count_59 : decode cX10_count 59 = .ok (.aload_n 0, 1) := by decide +kernel
theorem dX10_count_60 : decode cX10_count 60 = .ok (.getfield 31, 3) := by decide +kernel
theorem dX10_count_63 : decode cX10_count 63 = .ok (.getfield 98, 3) := by decide +kernel
theorem dX10_count_66 : decode cX10_count 66 = .ok (.invokevirtual 335, 3) := by decide +kernel
theorem dX10_count_69 : decode cX10_count 69 = .ok (.ireturn, 1) := by decide +kernel
theorem dX10_count_70 : decode cX10_count 70 = .ok (.aload_n 0, 1) := by decide +kernel
theorem dX10_count_71 : decode cX10_count 71 = .ok (.getfield 31, 3) := by decide +kernel
theorem dX10_count_74 : decode cX10_count 74 = .ok (.getfield 98, 3) := by decide +kernel
theorem dX10_count_77 : decode cX10_count 77 = .ok (.getfield 283, 3) := by decide +kernel
theorem dX10_count_80 : decode cX10_count 80 = .ok (.ireturn, 1) := by decide +kernel
theorem dX10_count_81 : decode cX10_count 81 = .ok (.aload_n 0, 1) := by decide +kernel
theorem dX10_count_82 : decode cX10_count 82 = .ok (.aload_n 0, 1) := by decide +kernel
theorem dX10_count_83 : decode cX10_count 83 = .ok (.getfield 31, 3) := by decide +kernel
theorem dX10_count_86 : decode cX10_count 86 = .ok (.getfield 98, 3) := by decide +kernel
theorem dX10_count_89 : decode cX10_count 89 = .ok (.invokevirtual 238, 3) := by decide +kernel
theorem dX10_count_92 : decode cX10_count 92 = .ok (.invokevirtual 247, 3) := by decide +kernel
theorem dX10_count_95 : decode cX10_count 95 = .ok (.ireturn, 1) := by decide +kernel
theorem dX10_count_96 : decode cX10_count 96 = .ok (.aload_n 0, 1) := by decide +kernel
theorem dX10_count_97 : decode cX10_count 97 = .ok (.getfield 31, 3) := by decide +kernel
theorem dX10_count_100 : decode cX10_count 100 = .ok (.getfield 98, 3) := by decide +kernel
theorem dX10_count_103 : decode cX10_count 103 = .ok (.getfield 111, 3) := by decide +kernel
theorem dX10_count_106 : decode cX10_count 106 = .ok (.ireturn, 1) := by decide +kernel
theorem dX10_count_107 : decode cX10_count 107 = .ok (.aload_n 0, 1) := by decide +kernel
theorem dX10_count_108 : decode cX10_count 108 = .ok (.getfield 20, 3) := by decide +kernel
theorem dX10_count_111 : decode cX10_count 111 = .ok (.getfield 84, 3) := by decide +kernel
theorem dX10_count_114 : decode cX10_count 114 = .ok (.ireturn, 1) := by decide +kernel
theorem dX10_count_115 : decode cX10_count 115 = .ok (.aload_n 0, 1) := by decide +kernel
theorem dX10_count_116 : decode cX10_count 116 = .ok (.getfield 31, 3) := by decide +kernel
theorem dX10_count_119 : decode cX10_count 119 = .ok (.getfield 105, 3) := by decide +kernel
theorem dX10_count_122 : decode cX10_count 122 = .ok (.ireturn, 1) := by decide +kernel
theorem dX10_count_123 : decode cX10_count 123 = .ok (.aload_n 0, 1) := by decide +kernel
theorem dX10_count_124 : decode cX10_count 124 = .ok (.invokevirtual 338, 3) := by decide +kernel
theorem dX10_count_127 : decode cX10_count 127 = .ok (.ireturn, 1) := by decide +kernel
theorem dX10_back_0 : decode cX10_back 0 = .ok (.iload_n 1, 1) := by decide +kernel
theorem dX10_back_1 : decode cX10_back 1 = .ok (.ifCond .lt 8, 3) := by decide +kernel
theorem dX10_back_9 : decode cX10_back 9 = .ok (.bipush (-2), 2) := by decide +kernel
theorem dX10_back_11 : decode cX10_back 11 = .ok (.ireturn, 1) := by decide +kernel
theorem dX10_back_4 : decode cX10_back 4 = .ok (.iload_n 1, 1) := by decide +kernel
theorem dX10_back_5 : decode cX10_back 5 = .ok (.iconst 3, 1) := by decide +kernel
theorem dX10_back_6 : decode cX10_back 6 = .ok (.if_icmp .lt 6, 3) := by decide +kernel
theorem dX10_back_12 : decode cX10_back 12 = .ok (.aload_n 0, 1) := by decide +kernel
theorem dX10_back_13 : decode cX10_back 13 = .ok (.getfield 35, 3) := by decide +kernel
theorem dX10_back_16 : decode cX10_back 16 = .ok (.iload_n 1, 1) := by decide +kernel
theorem dX10_back_17 : decode cX10_back 17 = .ok (.aaload, 1) := by decide +kernel
theorem dX10_back_18 : decode cX10_back 18 = .ok (.getfield 344, 3) := by decide +kernel
theorem dX10_back_21 : decode cX10_back 21 = .ok (.ifCond .ne 6, 3) := by decide +kernel
theorem dX10_back_24 : decode cX10_back 24 = .ok (.bipush (-6), 2) := by decide +kernel
theorem dX10_back_26 : decode cX10_back 26 = .ok (.ireturn, 1) := by decide +kernel
theorem dX10_write_0 : decode cX10_write 0 = .ok (.aload_n 0, 1) := by decide +kernel
theorem dX10_write_1 : decode cX10_write 1 = .ok (.iload_n 1, 1) := by decide +kernel
theorem dX10_write_2 : decode cX10_write 2 = .ok (.invokevirtual 348, 3) := by decide +kernel
theorem dX10_write_5 : decode cX10_write 5 = .ok (.ifCond .ne 6, 3) := by decide +kernel
theorem dX10_write_8 : decode cX10_write 8 = .ok (.bipush (-2), 2) := by decide +kernel
theorem dX10_write_10 : decode cX10_write 10 = .ok (.ireturn, 1) := by decide +kernel
theorem dX10_write_11 : decode cX10_write 11 = .ok (.aload_n 0, 1) := by decide +kernel
theorem dX10_write_12 : decode cX10_write 12 = .ok (.getfield 41, 3) := by decide +kernel
theorem dX10_write_15 : decode cX10_write 15 = .ok (.iload_n 1, 1) := by decide +kernel
theorem dX10_write_16 : decode cX10_write 16 = .ok (.aaload, 1) := by decide +kernel
theorem dX10_write_17 : decode cX10_write 17 = .ok (.astore 5, 2) := by decide +kernel
theorem dX10_write_19 : decode cX10_write 19 = .ok (.aload 5, 2) := by decide +kernel
theorem dX10_write_21 : decode cX10_write 21 = .ok (.getfield 354, 3) := by decide +kernel
theorem dX10_write_24 : decode cX10_write 24 = .ok (.ifCond .ne 6, 3) := by decide +kernel
theorem dX10_write_27 : decode cX10_write 27 = .ok (.bipush (-6), 2) := by decide +kernel
theorem dX10_write_29 : decode cX10_write 29 = .ok (.ireturn, 1) := by decide +kernel
theorem dX10_paste_0 : decode cX10_paste 0 = .ok (.aload_n 0, 1) := by decide +kernel
theorem dX10_paste_1 : decode cX10_paste 1 = .ok (.iload_n 1, 1) := by decide +kernel
theorem dX10_paste_2 : decode cX10_paste 2 = .ok (.invokevirtual 348, 3) := by decide +kernel
theorem dX10_paste_5 : decode cX10_paste 5 = .ok (.ifCond .eq 11, 3) := by decide +kernel
theorem dX10_paste_16 : decode cX10_paste 16 = .ok (.bipush (-2), 2) := by decide +kernel
theorem dX10_paste_18 : decode cX10_paste 18 = .ok (.ireturn, 1) := by decide +kernel
theorem dX10_paste_8 : decode cX10_paste 8 = .ok (.aload_n 0, 1) := by decide +kernel
theorem dX10_paste_9 : decode cX10_paste 9 = .ok (.iload_n 3, 1) := by decide +kernel
theorem dX10_paste_10 : decode cX10_paste 10 = .ok (.invokevirtual 348, 3) := by decide +kernel
theorem dX10_paste_13 : decode cX10_paste 13 = .ok (.ifCond .ne 6, 3) := by decide +kernel
theorem dX10_paste_19 : decode cX10_paste 19 = .ok (.aload_n 0, 1) := by decide +kernel
theorem dX10_paste_20 : decode cX10_paste 20 = .ok (.getfield 41, 3) := by decide +kernel
theorem dX10_paste_23 : decode cX10_paste 23 = .ok (.iload_n 1, 1) := by decide +kernel
theorem dX10_paste_24 : decode cX10_paste 24 = .ok (.aaload, 1) := by decide +kernel
theorem dX10_paste_25 : decode cX10_paste 25 = .ok (.astore 6, 2) := by decide +kernel
theorem dX10_paste_27 : decode cX10_paste 27 = .ok (.aload_n 0, 1) := by decide +kernel
theorem dX10_paste_28 : decode cX10_paste 28 = .ok (.getfield 41, 3) := by decide +kernel
theorem dX10_paste_31 : decode cX10_paste 31 = .ok (.iload_n 3, 1) := by decide +kernel
theorem dX10_paste_32 : decode cX10_paste 32 = .ok (.aaload, 1) := by decide +kernel
theorem dX10_paste_33 : decode cX10_paste 33 = .ok (.astore 7, 2) := by decide +kernel
theorem dX10_paste_35 : decode cX10_paste 35 = .ok (.aload 6, 2) := by decide +kernel
theorem dX10_paste_37 : decode cX10_paste 37 = .ok (.getfield 354, 3) := by decide +kernel
theorem dX10_paste_40 : decode cX10_paste 40 = .ok (.ifCond .eq 11, 3) := by decide +kernel
theorem dX10_paste_51 : decode cX10_paste 51 = .ok (.bipush (-6), 2) := by decide +kernel
theorem dX10_paste_53 : decode cX10_paste 53 = .ok (.ireturn, 1) := by decide +kernel
theorem dX10_fault_0 : decode cX10_fault 0 = .ok (.iload_n 1, 1) := by decide +kernel
theorem dX10_fault_1 : decode cX10_fault 1 = .ok (.lookupswitch 43 #[(0, 27), (1, 35)], 27) := by decide +kernel
theorem dX10_fault_28 : decode cX10_fault 28 = .ok (.aload_n 0, 1) := by decide +kernel
theorem dX10_fault_29 : decode cX10_fault 29 = .ok (.getfield 10, 3) := by decide +kernel
theorem dX10_fault_32 : decode cX10_fault 32 = .ok (.getfield 114, 3) := by decide +kernel
theorem dX10_fault_35 : decode cX10_fault 35 = .ok (.ireturn, 1) := by decide +kernel
theorem dX10_fault_36 : decode cX10_fault 36 = .ok (.aload_n 0, 1) := by decide +kernel
theorem dX10_fault_37 : decode cX10_fault 37 = .ok (.getfield 10, 3) := by decide +kernel
theorem dX10_fault_40 : decode cX10_fault 40 = .ok (.getfield 117, 3) := by decide +kernel
theorem dX10_fault_43 : decode cX10_fault 43 = .ok (.ireturn, 1) := by decide +kernel
theorem dX10_fault_44 : decode cX10_fault 44 = .ok (.iconst (-1), 1) := by decide +kernel
theorem dX10_fault_45 : decode cX10_fault 45 = .ok (.ireturn, 1) := by decide +kernel
theorem dX11_in_0 : decode cX11_in 0 = .ok (.lload_n 0, 1) := by decide +kernel
theorem dX11_in_1 : decode cX11_in 1 = .ok (.lload_n 2, 1) := by decide +kernel
theorem dX11_in_2 : decode cX11_in 2 = .ok (.lcmp, 1) := by decide +kernel
theorem dX11_in_3 : decode cX11_in 3 = .ok (.ifCond .lt 14, 3) := by decide +kernel
theorem dX11_in_17 : decode cX11_in 17 = .ok (.iconst 0, 1) := by decide +kernel
theorem dX11_in_18 : decode cX11_in 18 = .ok (.ireturn, 1) := by decide +kernel
theorem dX11_in_6 : decode cX11_in 6 = .ok (.lload_n 0, 1) := by decide +kernel
theorem dX11_in_7 : decode cX11_in 7 = .ok (.lload 4, 2) := by decide +kernel
theorem dX11_in_9 : decode cX11_in 9 = .ok (.lcmp, 1) := by decide +kernel
theorem dX11_in_10 : decode cX11_in 10 = .ok (.ifCond .gt 7, 3) := by decide +kernel
theorem dX11_in_13 : decode cX11_in 13 = .ok (.iconst 1, 1) := by decide +kernel
theorem dX11_in_14 : decode cX11_in 14 = .ok (.goto 4, 3) := by decide +kernel
theorem dX11_isHouse_0 : decode cX11_isHouse 0 = .ok (.aload_n 0, 1) := by decide +kernel
theorem dX11_isHouse_1 : decode cX11_isHouse 1 = .ok (.getfield 9, 3) := by decide +kernel
theorem dX11_isHouse_4 : decode cX11_isHouse 4 = .ok (.bipush 6, 2) := by decide +kernel
theorem dX11_isHouse_6 : decode cX11_isHouse 6 = .ok (.iaload, 1) := by decide +kernel
theorem dX11_isHouse_7 : decode cX11_isHouse 7 = .ok (.ifCond .le 7, 3) := by decide +kernel
theorem dX11_isHouse_14 : decode cX11_isHouse 14 = .ok (.iconst 0, 1) := by decide +kernel
theorem dX11_isHouse_15 : decode cX11_isHouse 15 = .ok (.ireturn, 1) := by decide +kernel
theorem dX11_isRoom_0 : decode cX11_isRoom 0 = .ok (.lload_n 1, 1) := by decide +kernel
theorem dX11_isRoom_1 : decode cX11_isRoom 1 = .ok (.lconst 0, 1) := by decide +kernel
theorem dX11_isRoom_2 : decode cX11_isRoom 2 = .ok (.aload_n 0, 1) := by decide +kernel
theorem dX11_isRoom_3 : decode cX11_isRoom 3 = .ok (.getfield 9, 3) := by decide +kernel
theorem dX11_isRoom_6 : decode cX11_isRoom 6 = .ok (.iconst 4, 1) := by decide +kernel
theorem dX11_isRoom_7 : decode cX11_isRoom 7 = .ok (.iaload, 1) := by decide +kernel
theorem dX11_isRoom_8 : decode cX11_isRoom 8 = .ok (.iconst 1, 1) := by decide +kernel
theorem dX11_isRoom_9 : decode cX11_isRoom 9 = .ok (.isub, 1) := by decide +kernel
theorem dX11_isRoom_10 : decode cX11_isRoom 10 = .ok (.i2l, 1) := by decide +kernel
theorem dX11_isRoom_11 : decode cX11_isRoom 11 = .ok (.invokestatic 79, 3) := by decide +kernel
theorem dX11_isRoom_14 : decode cX11_isRoom 14 = .ok (.ireturn, 1) := by decide +kernel
theorem dX11_isRoomOrNone_0 : decode cX11_isRoomOrNone 0 = .ok (.aload_n 0, 1) := by decide +kernel
theorem dX11_isRoomOrNone_1 : decode cX11_isRoomOrNone 1 = .ok (.invokevirtual 83, 3) := by decide +kernel
theorem dX11_isRoomOrNone_4 : decode cX11_isRoomOrNone 4 = .ok (.ifCond .eq 11, 3) := by decide +kernel
theorem dX11_isRoomOrNone_15 : decode cX11_isRoomOrNone 15 = .ok (.aload_n 0, 1) := by decide +kernel
theorem dX11_isRoomOrNone_16 : decode cX11_isRoomOrNone 16 = .ok (.lload_n 1, 1) := by decide +kernel
theorem dX11_isRoomOrNone_17 : decode cX11_isRoomOrNone 17 = .ok (.invokevirtual 89, 3) := by decide +kernel
theorem dX11_isRoomOrNone_20 : decode cX11_isRoomOrNone 20 = .ok (.ifCond .eq 7, 3) := by decide +kernel
theorem dX11_isRoomOrNone_27 : decode cX11_isRoomOrNone 27 = .ok (.iconst 0, 1) := by decide +kernel
theorem dX11_isRoomOrNone_28 : decode cX11_isRoomOrNone 28 = .ok (.ireturn, 1) := by decide +kernel
theorem dX11_isMan_0 : decode cX11_isMan 0 = .ok (.iload_n 1, 1) := by decide +kernel
theorem dX11_isMan_1 : decode cX11_isMan 1 = .ok (.i2l, 1) := by decide +kernel
theorem dX11_isMan_2 : decode cX11_isMan 2 = .ok (.lconst 0, 1) := by decide +kernel
theorem dX11_isMan_3 : decode cX11_isMan 3 = .ok (.aload_n 0, 1) := by decide +kernel
theorem dX11_isMan_4 : decode cX11_isMan 4 = .ok (.getfield 9, 3) := by decide +kernel
theorem dX11_isMan_7 : decode cX11_isMan 7 = .ok (.iconst 5, 1) := by decide +kernel
theorem dX11_isMan_8 : decode cX11_isMan 8 = .ok (.iaload, 1) := by decide +kernel
theorem dX11_isMan_9 : decode cX11_isMan 9 = .ok (.iconst 1, 1) := by decide +kernel
theorem dX11_isMan_10 : decode cX11_isMan 10 = .ok (.isub, 1) := by decide +kernel
theorem dX11_isMan_11 : decode cX11_isMan 11 = .ok (.i2l, 1) := by decide +kernel
theorem dX11_isMan_12 : decode cX11_isMan 12 = .ok (.invokestatic 79, 3) := by decide +kernel
theorem dX11_isMan_15 : decode cX11_isMan 15 = .ok (.ireturn, 1) := by decide +kernel
theorem dX11_areMen_0 : decode cX11_areMen 0 = .ok (.aload_n 0, 1) := by decide +kernel
theorem dX11_areMen_1 : decode cX11_areMen 1 = .ok (.invokevirtual 83, 3) := by decide +kernel
theorem dX11_areMen_4 : decode cX11_areMen 4 = .ok (.ifCond .eq 27, 3) := by decide +kernel
theorem dX11_areMen_31 : decode cX11_areMen 31 = .ok (.iconst 0, 1) := by decide +kernel
theorem dX11_areMen_32 : decode cX11_areMen 32 = .ok (.ireturn, 1) := by decide +kernel
theorem dX11_isSlot_0 : decode cX11_isSlot 0 = .ok (.iload_n 0, 1) := by decide +kernel
theorem dX11_isSlot_1 : decode cX11_isSlot 1 = .ok (.i2l, 1) := by decide +kernel
theorem dX11_isSlot_2 : decode cX11_isSlot 2 = .ok (.lconst 0, 1) := by decide +kernel
theorem dX11_isSlot_3 : decode cX11_isSlot 3 = .ok (.ldc2_w 225, 3) := by decide +kernel
theorem dX11_isSlot_6 : decode cX11_isSlot 6 = .ok (.invokestatic 79, 3) := by decide +kernel
theorem dX11_isSlot_9 : decode cX11_isSlot 9 = .ok (.ireturn, 1) := by decide +kernel
theorem dX11_isSeed_0 : decode cX11_isSeed 0 = .ok (.iload_n 0, 1) := by decide +kernel
theorem dX11_isSeed_1 : decode cX11_isSeed 1 = .ok (.i2l, 1) := by decide +kernel
theorem dX11_isSeed_2 : decode cX11_isSeed 2 = .ok (.lconst 0, 1) := by decide +kernel
theorem dX11_isSeed_3 : decode cX11_isSeed 3 = .ok (.ldc2_w 439, 3) := by decide +kernel
theorem dX11_isSeed_6 : decode cX11_isSeed 6 = .ok (.invokestatic 79, 3) := by decide +kernel
theorem dX11_isSeed_9 : decode cX11_isSeed 9 = .ok (.ireturn, 1) := by decide +kernel
theorem dX11_asksRound_0 : decode cX11_asksRound 0 = .ok (.iload_n 1, 1) := by decide +kernel
theorem dX11_asksRound_1 : decode cX11_asksRound 1 = .ok (.invokestatic 290, 3) := by decide +kernel
theorem dX11_asksRound_4 : decode cX11_asksRound 4 = .ok (.ifCond .eq 14, 3) := by decide +kernel
theorem dX11_asksRound_18 : decode cX11_asksRound 18 = .ok (.bipush (-2), 2) := by decide +kernel
theorem dX11_asksRound_20 : decode cX11_asksRound 20 = .ok (.ireturn, 1) := by decide +kernel
theorem dX11_asksRound_7 : decode cX11_asksRound 7 = .ok (.aload_n 0, 1) := by decide +kernel
theorem dX11_asksRound_8 : decode cX11_asksRound 8 = .ok (.invokevirtual 83, 3) := by decide +kernel
theorem dX11_asksRound_11 : decode cX11_asksRound 11 = .ok (.ifCond .eq 7, 3) := by decide +kernel
theorem dX11_asksHabit_0 : decode cX11_asksHabit 0 = .ok (.iload_n 1, 1) := by decide +kernel
theorem dX11_asksHabit_1 : decode cX11_asksHabit 1 = .ok (.invokestatic 290, 3) := by decide +kernel
theorem dX11_asksHabit_4 : decode cX11_asksHabit 4 = .ok (.ifCond .eq 14, 3) := by decide +kernel
theorem dX11_asksHabit_18 : decode cX11_asksHabit 18 = .ok (.bipush (-2), 2) := by decide +kernel
theorem dX11_asksHabit_20 : decode cX11_asksHabit 20 = .ok (.ireturn, 1) := by decide +kernel
theorem dX11_asksHabit_7 : decode cX11_asksHabit 7 = .ok (.aload_n 0, 1) := by decide +kernel
theorem dX11_asksHabit_8 : decode cX11_asksHabit 8 = .ok (.invokevirtual 83, 3) := by decide +kernel
theorem dX11_asksHabit_11 : decode cX11_asksHabit 11 = .ok (.ifCond .eq 7, 3) := by decide +kernel
theorem dX11_room_0 : decode cX11_room 0 = .ok (.aload_n 0, 1) := by decide +kernel
theorem dX11_room_1 : decode cX11_room 1 = .ok (.iload_n 1, 1) := by decide +kernel
theorem dX11_room_2 : decode cX11_room 2 = .ok (.i2l, 1) := by decide +kernel
theorem dX11_room_3 : decode cX11_room 3 = .ok (.invokevirtual 89, 3) := by decide +kernel
theorem dX11_room_6 : decode cX11_room 6 = .ok (.ifCond .eq 24, 3) := by decide +kernel
theorem dX11_room_30 : decode cX11_room 30 = .ok (.bipush (-2), 2) := by decide +kernel
theorem dX11_room_32 : decode cX11_room 32 = .ok (.ireturn, 1) := by decide +kernel
theorem dX11_man_0 : decode cX11_man 0 = .ok (.aload_n 0, 1) := by decide +kernel
theorem dX11_man_1 : decode cX11_man 1 = .ok (.iload_n 1, 1) := by decide +kernel
theorem dX11_man_2 : decode cX11_man 2 = .ok (.invokevirtual 230, 3) := by decide +kernel
theorem dX11_man_5 : decode cX11_man 5 = .ok (.ifCond .eq 22, 3) := by decide +kernel
theorem dX11_man_27 : decode cX11_man 27 = .ok (.bipush (-2), 2) := by decide +kernel
theorem dX11_man_29 : decode cX11_man 29 = .ok (.ireturn, 1) := by decide +kernel
theorem dX11_slate_0 : decode cX11_slate 0 = .ok (.aload_n 0, 1) := by decide +kernel
theorem dX11_slate_1 : decode cX11_slate 1 = .ok (.iload_n 1, 1) := by decide +kernel
theorem dX11_slate_2 : decode cX11_slate 2 = .ok (.invokevirtual 230, 3) := by decide +kernel
theorem dX11_slate_5 : decode cX11_slate 5 = .ok (.ifCond .eq 22, 3) := by decide +kernel
theorem dX11_slate_27 : decode cX11_slate 27 = .ok (.bipush (-2), 2) := by decide +kernel
theorem dX11_slate_29 : decode cX11_slate 29 = .ok (.ireturn, 1) := by decide +kernel
theorem dX11_hears_0 : decode cX11_hears 0 = .ok (.aload_n 0, 1) := by decide +kernel
theorem dX11_hears_1 : decode cX11_hears 1 = .ok (.iload_n 1, 1) := by decide +kernel
theorem dX11_hears_2 : decode cX11_hears 2 = .ok (.i2l, 1) := by decide +kernel
theorem dX11_hears_3 : decode cX11_hears 3 = .ok (.invokevirtual 89, 3) := by decide +kernel
theorem dX11_hears_6 : decode cX11_hears 6 = .ok (.ifCond .eq 24, 3) := by decide +kernel
theorem dX11_hears_30 : decode cX11_hears 30 = .ok (.bipush (-2), 2) := by decide +kernel
theorem dX11_hears_32 : decode cX11_hears 32 = .ok (.ireturn, 1) := by decide +kernel
theorem dX11_parts_0 : decode cX11_parts 0 = .ok (.aload_n 0, 1) := by decide +kernel
theorem dX11_parts_1 : decode cX11_parts 1 = .ok (.iload_n 1, 1) := by decide +kernel
theorem dX11_parts_2 : decode cX11_parts 2 = .ok (.i2l, 1) := by decide +kernel
theorem dX11_parts_3 : decode cX11_parts 3 = .ok (.invokevirtual 275, 3) := by decide +kernel
theorem dX11_parts_6 : decode cX11_parts 6 = .ok (.ifCond .ne 6, 3) := by decide +kernel
theorem dX11_parts_9 : decode cX11_parts 9 = .ok (.bipush (-2), 2) := by decide +kernel
theorem dX11_parts_11 : decode cX11_parts 11 = .ok (.ireturn, 1) := by decide +kernel
theorem dX11_found_0 : decode cX11_found 0 = .ok (.aload_n 0, 1) := by decide +kernel
theorem dX11_found_1 : decode cX11_found 1 = .ok (.invokevirtual 83, 3) := by decide +kernel
theorem dX11_found_4 : decode cX11_found 4 = .ok (.ifCond .ne 6, 3) := by decide +kernel
theorem dX11_found_7 : decode cX11_found 7 = .ok (.bipush (-2), 2) := by decide +kernel
theorem dX11_found_9 : decode cX11_found 9 = .ok (.ireturn, 1) := by decide +kernel
theorem dX11_likely_0 : decode cX11_likely 0 = .ok (.aload_n 0, 1) := by decide +kernel
theorem dX11_likely_1 : decode cX11_likely 1 = .ok (.invokevirtual 83, 3) := by decide +kernel
theorem dX11_likely_4 : decode cX11_likely 4 = .ok (.ifCond .ne 6, 3) := by decide +kernel
theorem dX11_likely_7 : decode cX11_likely 7 = .ok (.bipush (-2), 2) := by decide +kernel
theorem dX11_likely_9 : decode cX11_likely 9 = .ok (.ireturn, 1) := by decide +kernel
theorem dX11_here_0 : decode cX11_here 0 = .ok (.aload_n 0, 1) := by decide +kernel
theorem dX11_here_1 : decode cX11_here 1 = .ok (.invokevirtual 83, 3) := by decide +kernel
theorem dX11_here_4 : decode cX11_here 4 = .ok (.ifCond .ne 6, 3) := by decide +kernel
theorem dX11_here_7 : decode cX11_here 7 = .ok (.bipush (-2), 2) := by decide +kernel
theorem dX11_here_9 : decode cX11_here 9 = .ok (.ireturn, 1) := by decide +kernel
theorem dX11_chance_0 : decode cX11_chance 0 = .ok (.aload_n 0, 1) := by decide +kernel
theorem dX11_chance_1 : decode cX11_chance 1 = .ok (.iload_n 1, 1) := by decide +kernel
theorem dX11_chance_2 : decode cX11_chance 2 = .ok (.i2l, 1) := by decide +kernel
theorem dX11_chance_3 : decode cX11_chance 3 = .ok (.invokevirtual 275, 3) := by decide +kernel
theorem dX11_chance_6 : decode cX11_chance 6 = .ok (.ifCond .ne 6, 3) := by decide +kernel
theorem dX11_chance_9 : decode cX11_chance 9 = .ok (.bipush (-2), 2) := by decide +kernel
theorem dX11_chance_11 : decode cX11_chance 11 = .ok (.ireturn, 1) := by decide +kernel
theorem dX11_call_0 : decode cX11_call 0 = .ok (.aload_n 0, 1) := by decide +kernel
theorem dX11_call_1 : decode cX11_call 1 = .ok (.iload_n 1, 1) := by decide +kernel
theorem dX11_call_2 : decode cX11_call 2 = .ok (.i2l, 1) := by decide +kernel
theorem dX11_call_3 : decode cX11_call 3 = .ok (.invokevirtual 275, 3) := by decide +kernel
theorem dX11_call_6 : decode cX11_call 6 = .ok (.ifCond .ne 6, 3) := by decide +kernel
theorem dX11_call_9 : decode cX11_call 9 = .ok (.bipush (-2), 2) := by decide +kernel
theorem dX11_call_11 : decode cX11_call 11 = .ok (.ireturn, 1) := by decide +kernel
theorem dX11_undo_0 : decode cX11_undo 0 = .ok (.aload_n 0, 1) := by decide +kernel
theorem dX11_undo_1 : decode cX11_undo 1 = .ok (.invokevirtual 83, 3) := by decide +kernel
theorem dX11_undo_4 : decode cX11_undo 4 = .ok (.ifCond .ne 6, 3) := by decide +kernel
theorem dX11_undo_7 : decode cX11_undo 7 = .ok (.bipush (-2), 2) := by decide +kernel
theorem dX11_undo_9 : decode cX11_undo 9 = .ok (.ireturn, 1) := by decide +kernel
theorem dX11_anew_0 : decode cX11_anew 0 = .ok (.aload_n 0, 1) := by decide +kernel
theorem dX11_anew_1 : decode cX11_anew 1 = .ok (.invokevirtual 83, 3) := by decide +kernel
theorem dX11_anew_4 : decode cX11_anew 4 = .ok (.ifCond .ne 6, 3) := by decide +kernel
theorem dX11_anew_7 : decode cX11_anew 7 = .ok (.bipush (-2), 2) := by decide +kernel
theorem dX11_anew_9 : decode cX11_anew 9 = .ok (.ireturn, 1) := by decide +kernel
theorem dX11_later_0 : decode cX11_later 0 = .ok (.aload_n 0, 1) := by decide +kernel
theorem dX11_later_1 : decode cX11_later 1 = .ok (.iload_n 1, 1) := by decide +kernel
theorem dX11_later_2 : decode cX11_later 2 = .ok (.i2l, 1) := by decide +kernel
theorem dX11_later_3 : decode cX11_later 3 = .ok (.invokevirtual 275, 3) := by decide +kernel
theorem dX11_later_6 : decode cX11_later 6 = .ok (.ifCond .eq 15, 3) := by decide +kernel
theorem dX11_later_21 : decode cX11_later 21 = .ok (.bipush (-2), 2) := by decide +kernel
theorem dX11_later_23 : decode cX11_later 23 = .ok (.ireturn, 1) := by decide +kernel
theorem dX11_round_0 : decode cX11_round 0 = .ok (.aload_n 0, 1) := by decide +kernel
theorem dX11_round_1 : decode cX11_round 1 = .ok (.iload_n 1, 1) := by decide +kernel
theorem dX11_round_2 : decode cX11_round 2 = .ok (.iconst 1, 1) := by decide +kernel
theorem dX11_round_3 : decode cX11_round 3 = .ok (.invokevirtual 303, 3) := by decide +kernel
theorem dX11_round_6 : decode cX11_round 6 = .ok (.istore_n 2, 1) := by decide +kernel
theorem dX11_round_7 : decode cX11_round 7 = .ok (.iload_n 2, 1) := by decide +kernel
theorem dX11_round_8 : decode cX11_round 8 = .ok (.ifCond .ge 7, 3) := by decide +kernel
theorem dX11_round_11 : decode cX11_round 11 = .ok (.iload_n 2, 1) := by decide +kernel
theorem dX11_round_12 : decode cX11_round 12 = .ok (.goto 15, 3) := by decide +kernel
theorem dX11_round_27 : decode cX11_round 27 = .ok (.ireturn, 1) := by decide +kernel
theorem dX11_behind_0 : decode cX11_behind 0 = .ok (.aload_n 0, 1) := by decide +kernel
theorem dX11_behind_1 : decode cX11_behind 1 = .ok (.iload_n 1, 1) := by decide +kernel
theorem dX11_behind_2 : decode cX11_behind 2 = .ok (.aload_n 0, 1) := by decide +kernel
theorem dX11_behind_3 : decode cX11_behind 3 = .ok (.iload_n 2, 1) := by decide +kernel
theorem dX11_behind_4 : decode cX11_behind 4 = .ok (.i2l, 1) := by decide +kernel
theorem dX11_behind_5 : decode cX11_behind 5 = .ok (.invokevirtual 89, 3) := by decide +kernel
theorem dX11_behind_8 : decode cX11_behind 8 = .ok (.invokevirtual 303, 3) := by decide +kernel
theorem dX11_behind_11 : decode cX11_behind 11 = .ok (.istore_n 3, 1) := by decide +kernel
theorem dX11_behind_12 : decode cX11_behind 12 = .ok (.iload_n 3, 1) := by decide +kernel
theorem dX11_behind_13 : decode cX11_behind 13 = .ok (.ifCond .ge 5, 3) := by decide +kernel
theorem dX11_behind_16 : decode cX11_behind 16 = .ok (.iload_n 3, 1) := by decide +kernel
theorem dX11_behind_17 : decode cX11_behind 17 = .ok (.ireturn, 1) := by decide +kernel
theorem dX11_disturbs_0 : decode cX11_disturbs 0 = .ok (.aload_n 0, 1) := by decide +kernel
theorem dX11_disturbs_1 : decode cX11_disturbs 1 = .ok (.iload_n 1, 1) := by decide +kernel
theorem dX11_disturbs_2 : decode cX11_disturbs 2 = .ok (.iconst 1, 1) := by decide +kernel
theorem dX11_disturbs_3 : decode cX11_disturbs 3 = .ok (.invokevirtual 303, 3) := by decide +kernel
theorem dX11_disturbs_6 : decode cX11_disturbs 6 = .ok (.istore_n 2, 1) := by decide +kernel
theorem dX11_disturbs_7 : decode cX11_disturbs 7 = .ok (.iload_n 2, 1) := by decide +kernel
theorem dX11_disturbs_8 : decode cX11_disturbs 8 = .ok (.ifCond .ge 5, 3) := by decide +kernel
theorem dX11_disturbs_11 : decode cX11_disturbs 11 = .ok (.iload_n 2, 1) := by decide +kernel
theorem dX11_disturbs_12 : decode cX11_disturbs 12 = .ok (.ireturn, 1) := by decide +kernel
theorem dX11_stop_0 : decode cX11_stop 0 = .ok (.aload_n 0, 1) := by decide +kernel
theorem dX11_stop_1 : decode cX11_stop 1 = .ok (.iload_n 1, 1) := by decide +kernel
theorem dX11_stop_2 : decode cX11_stop 2 = .ok (.iconst 1, 1) := by decide +kernel
theorem dX11_stop_3 : decode cX11_stop 3 = .ok (.invokevirtual 303, 3) := by decide +kernel
theorem dX11_stop_6 : decode cX11_stop 6 = .ok (.istore_n 2, 1) := by decide +kernel
theorem dX11_stop_7 : decode cX11_stop 7 = .ok (.iload_n 2, 1) := by decide +kernel
theorem dX11_stop_8 : decode cX11_stop 8 = .ok (.ifCond .ge 5, 3) := by decide +kernel
theorem dX11_stop_11 : decode cX11_stop 11 = .ok (.iload_n 2, 1) := by decide +kernel
theorem dX11_stop_12 : decode cX11_stop 12 = .ok (.ireturn, 1) := by decide +kernel
theorem dX11_doubt_0 : decode cX11_doubt 0 = .ok (.aload_n 0, 1) := by decide +kernel
theorem dX11_doubt_1 : decode cX11_doubt 1 = .ok (.iload_n 1, 1) := by decide +kernel
theorem dX11_doubt_2 : decode cX11_doubt 2 = .ok (.iload_n 2, 1) := by decide +kernel
theorem dX11_doubt_3 : decode cX11_doubt 3 = .ok (.i2l, 1) := by decide +kernel
theorem dX11_doubt_4 : decode cX11_doubt 4 = .ok (.lconst 0, 1) := by decide +kernel
theorem dX11_doubt_5 : decode cX11_doubt 5 = .ok (.ldc2_w 273, 3) := by decide +kernel
theorem dX11_doubt_8 : decode cX11_doubt 8 = .ok (.invokestatic 79, 3) := by decide +kernel
theorem dX11_doubt_11 : decode cX11_doubt 11 = .ok (.invokevirtual 303, 3) := by decide +kernel
theorem dX11_doubt_14 : decode cX11_doubt 14 = .ok (.istore_n 3, 1) := by decide +kernel
theorem dX11_doubt_15 : decode cX11_doubt 15 = .ok (.iload_n 3, 1) := by decide +kernel
theorem dX11_doubt_16 : decode cX11_doubt 16 = .ok (.ifCond .ge 5, 3) := by decide +kernel
theorem dX11_doubt_19 : decode cX11_doubt 19 = .ok (.iload_n 3, 1) := by decide +kernel
theorem dX11_doubt_20 : decode cX11_doubt 20 = .ok (.ireturn, 1) := by decide +kernel
theorem dX11_walks_0 : decode cX11_walks 0 = .ok (.aload_n 0, 1) := by decide +kernel
theorem dX11_walks_1 : decode cX11_walks 1 = .ok (.iload_n 1, 1) := by decide +kernel
theorem dX11_walks_2 : decode cX11_walks 2 = .ok (.aload_n 0, 1) := by decide +kernel
theorem dX11_walks_3 : decode cX11_walks 3 = .ok (.iload_n 2, 1) := by decide +kernel
theorem dX11_walks_4 : decode cX11_walks 4 = .ok (.i2l, 1) := by decide +kernel
theorem dX11_walks_5 : decode cX11_walks 5 = .ok (.invokevirtual 89, 3) := by decide +kernel
theorem dX11_walks_8 : decode cX11_walks 8 = .ok (.invokevirtual 303, 3) := by decide +kernel
theorem dX11_walks_11 : decode cX11_walks 11 = .ok (.istore_n 3, 1) := by decide +kernel
theorem dX11_walks_12 : decode cX11_walks 12 = .ok (.iload_n 3, 1) := by decide +kernel
theorem dX11_walks_13 : decode cX11_walks 13 = .ok (.ifCond .ge 7, 3) := by decide +kernel
theorem dX11_walks_16 : decode cX11_walks 16 = .ok (.iload_n 3, 1) := by decide +kernel
theorem dX11_walks_17 : decode cX11_walks 17 = .ok (.goto 17, 3) := by decide +kernel
theorem dX11_walks_34 : decode cX11_walks 34 = .ok (.ireturn, 1) := by decide +kernel
theorem dX11_penny_0 : decode cX11_penny 0 = .ok (.aload_n 0, 1) := by decide +kernel
theorem dX11_penny_1 : decode cX11_penny 1 = .ok (.iload_n 1, 1) := by decide +kernel
theorem dX11_penny_2 : decode cX11_penny 2 = .ok (.iconst 1, 1) := by decide +kernel
theorem dX11_penny_3 : decode cX11_penny 3 = .ok (.invokevirtual 303, 3) := by decide +kernel
theorem dX11_penny_6 : decode cX11_penny 6 = .ok (.istore_n 2, 1) := by decide +kernel
theorem dX11_penny_7 : decode cX11_penny 7 = .ok (.iload_n 2, 1) := by decide +kernel
theorem dX11_penny_8 : decode cX11_penny 8 = .ok (.ifCond .ge 5, 3) := by decide +kernel
theorem dX11_penny_11 : decode cX11_penny 11 = .ok (.iload_n 2, 1) := by decide +kernel
theorem dX11_penny_12 : decode cX11_penny 12 = .ok (.ireturn, 1) := by decide +kernel
theorem dX11_best_0 : decode cX11_best 0 = .ok (.aload_n 0, 1) := by decide +kernel
theorem dX11_best_1 : decode cX11_best 1 = .ok (.iload_n 1, 1) := by decide +kernel
theorem dX11_best_2 : decode cX11_best 2 = .ok (.i2l, 1) := by decide +kernel
theorem dX11_best_3 : decode cX11_best 3 = .ok (.invokevirtual 89, 3) := by decide +kernel
theorem dX11_best_6 : decode cX11_best 6 = .ok (.ifCond .eq 24, 3) := by decide +kernel
theorem dX11_best_30 : decode cX11_best 30 = .ok (.bipush (-2), 2) := by decide +kernel
theorem dX11_best_32 : decode cX11_best 32 = .ok (.ireturn, 1) := by decide +kernel
theorem dX11_goes_0 : decode cX11_goes 0 = .ok (.aload_n 0, 1) := by decide +kernel
theorem dX11_goes_1 : decode cX11_goes 1 = .ok (.iload_n 1, 1) := by decide +kernel
theorem dX11_goes_2 : decode cX11_goes 2 = .ok (.i2l, 1) := by decide +kernel
theorem dX11_goes_3 : decode cX11_goes 3 = .ok (.invokevirtual 89, 3) := by decide +kernel
theorem dX11_goes_6 : decode cX11_goes 6 = .ok (.ifCond .eq 15, 3) := by decide +kernel
theorem dX11_goes_21 : decode cX11_goes 21 = .ok (.bipush (-2), 2) := by decide +kernel
theorem dX11_goes_23 : decode cX11_goes 23 = .ok (.ireturn, 1) := by decide +kernel
theorem dX11_begins_0 : decode cX11_begins 0 = .ok (.iload_n 1, 1) := by decide +kernel
theorem dX11_begins_1 : decode cX11_begins 1 = .ok (.i2l, 1) := by decide +kernel
theorem dX11_begins_2 : decode cX11_begins 2 = .ok (.lconst 0, 1) := by decide +kernel
theorem dX11_begins_3 : decode cX11_begins 3 = .ok (.ldc2_w 325, 3) := by decide +kernel
theorem dX11_begins_6 : decode cX11_begins 6 = .ok (.invokestatic 79, 3) := by decide +kernel
theorem dX11_begins_9 : decode cX11_begins 9 = .ok (.ifCond .eq 12, 3) := by decide +kernel
theorem dX11_begins_21 : decode cX11_begins 21 = .ok (.bipush (-2), 2) := by decide +kernel
theorem dX11_begins_23 : decode cX11_begins 23 = .ok (.ireturn, 1) := by decide +kernel
theorem dX11_begins_12 : decode cX11_begins 12 = .ok (.aload_n 0, 1) := by decide +kernel
theorem dX11_begins_13 : decode cX11_begins 13 = .ok (.getfield 9, 3) := by decide +kernel
theorem dX11_begins_16 : decode cX11_begins 16 = .ok (.iconst 4, 1) := by decide +kernel
theorem dX11_begins_17 : decode cX11_begins 17 = .ok (.iaload, 1) := by decide +kernel
theorem dX11_begins_18 : decode cX11_begins 18 = .ok (.ifCond .ne 6, 3) := by decide +kernel
theorem dX11_soon_0 : decode cX11_soon 0 = .ok (.aload_n 0, 1) := by decide +kernel
theorem dX11_soon_1 : decode cX11_soon 1 = .ok (.iload_n 1, 1) := by decide +kernel
theorem dX11_soon_2 : decode cX11_soon 2 = .ok (.i2l, 1) := by decide +kernel
theorem dX11_soon_3 : decode cX11_soon 3 = .ok (.invokevirtual 89, 3) := by decide +kernel
theorem dX11_soon_6 : decode cX11_soon 6 = .ok (.ifCond .eq 15, 3) := by decide +kernel
theorem dX11_soon_21 : decode cX11_soon 21 = .ok (.bipush (-2), 2) := by decide +kernel
theorem dX11_soon_23 : decode cX11_soon 23 = .ok (.ireturn, 1) := by decide +kernel
theorem dX11_far_0 : decode cX11_far 0 = .ok (.aload_n 0, 1) := by decide +kernel
theorem dX11_far_1 : decode cX11_far 1 = .ok (.iload_n 1, 1) := by decide +kernel
theorem dX11_far_2 : decode cX11_far 2 = .ok (.i2l, 1) := by decide +kernel
theorem dX11_far_3 : decode cX11_far 3 = .ok (.invokevirtual 89, 3) := by decide +kernel
theorem dX11_far_6 : decode cX11_far 6 = .ok (.ifCond .eq 12, 3) := by decide +kernel
theorem dX11_far_18 : decode cX11_far 18 = .ok (.bipush (-2), 2) := by decide +kernel
theorem dX11_far_20 : decode cX11_far 20 = .ok (.ireturn, 1) := by decide +kernel
theorem dX11_hangs_0 : decode cX11_hangs 0 = .ok (.aload_n 0, 1) := by decide +kernel
theorem dX11_hangs_1 : decode cX11_hangs 1 = .ok (.iload_n 1, 1) := by decide +kernel
theorem dX11_hangs_2 : decode cX11_hangs 2 = .ok (.iconst 1, 1) := by decide +kernel
theorem dX11_hangs_3 : decode cX11_hangs 3 = .ok (.invokevirtual 303, 3) := by decide +kernel
theorem dX11_hangs_6 : decode cX11_hangs 6 = .ok (.istore_n 2, 1) := by decide +kernel
theorem dX11_hangs_7 : decode cX11_hangs 7 = .ok (.iload_n 2, 1) := by decide +kernel
theorem dX11_hangs_8 : decode cX11_hangs 8 = .ok (.ifCond .ge 5, 3) := by decide +kernel
theorem dX11_hangs_11 : decode cX11_hangs 11 = .ok (.iload_n 2, 1) := by decide +kernel
theorem dX11_hangs_12 : decode cX11_hangs 12 = .ok (.ireturn, 1) := by decide +kernel
theorem dX11_rest_0 : decode cX11_rest 0 = .ok (.aload_n 0, 1) := by decide +kernel
theorem dX11_rest_1 : decode cX11_rest 1 = .ok (.invokevirtual 83, 3) := by decide +kernel
theorem dX11_rest_4 : decode cX11_rest 4 = .ok (.ifCond .ne 6, 3) := by decide +kernel
theorem dX11_rest_7 : decode cX11_rest 7 = .ok (.bipush (-2), 2) := by decide +kernel
theorem dX11_rest_9 : decode cX11_rest 9 = .ok (.ireturn, 1) := by decide +kernel
theorem dX11_trumpet_0 : decode cX11_trumpet 0 = .ok (.aload_n 0, 1) := by decide +kernel
theorem dX11_trumpet_1 : decode cX11_trumpet 1 = .ok (.invokevirtual 83, 3) := by decide +kernel
theorem dX11_trumpet_4 : decode cX11_trumpet 4 = .ok (.ifCond .ne 6, 3) := by decide +kernel
theorem dX11_trumpet_7 : decode cX11_trumpet 7 = .ok (.bipush (-2), 2) := by decide +kernel
theorem dX11_trumpet_9 : decode cX11_trumpet 9 = .ok (.ireturn, 1) := by decide +kernel
theorem dX11_quiet_0 : decode cX11_quiet 0 = .ok (.aload_n 0, 1) := by decide +kernel
theorem dX11_quiet_1 : decode cX11_quiet 1 = .ok (.invokevirtual 83, 3) := by decide +kernel
theorem dX11_quiet_4 : decode cX11_quiet 4 = .ok (.ifCond .eq 15, 3) := by decide +kernel
theorem dX11_quiet_19 : decode cX11_quiet 19 = .ok (.bipush (-2), 2) := by decide +kernel
theorem dX11_quiet_21 : decode cX11_quiet 21 = .ok (.ireturn, 1) := by decide +kernel
theorem dX11_quietly_0 : decode cX11_quietly 0 = .ok (.aload_n 0, 1) := by decide +kernel
theorem dX11_quietly_1 : decode cX11_quietly 1 = .ok (.invokevirtual 83, 3) := by decide +kernel
theorem dX11_quietly_4 : decode cX11_quietly 4 = .ok (.ifCond .eq 23, 3) := by decide +kernel
theorem dX11_quietly_27 : decode cX11_quietly 27 = .ok (.bipush (-2), 2) := by decide +kernel
theorem dX11_quietly_29 : decode cX11_quietly 29 = .ok (.ireturn, 1) := by decide +kernel
theorem dX11_card_0 : decode cX11_card 0 = .ok (.aload_n 0, 1) := by decide +kernel
theorem dX11_card_1 : decode cX11_card 1 = .ok (.iload_n 1, 1) := by decide +kernel
theorem dX11_card_2 : decode cX11_card 2 = .ok (.i2l, 1) := by decide +kernel
theorem dX11_card_3 : decode cX11_card 3 = .ok (.invokevirtual 89, 3) := by decide +kernel
theorem dX11_card_6 : decode cX11_card 6 = .ok (.ifCond .eq 24, 3) := by decide +kernel
theorem dX11_card_30 : decode cX11_card 30 = .ok (.bipush (-2), 2) := by decide +kernel
theorem dX11_card_32 : decode cX11_card 32 = .ok (.ireturn, 1) := by decide +kernel
theorem dX11_desk_0 : decode cX11_desk 0 = .ok (.aload_n 0, 1) := by decide +kernel
theorem dX11_desk_1 : decode cX11_desk 1 = .ok (.getfield 9, 3) := by decide +kernel
theorem dX11_desk_4 : decode cX11_desk 4 = .ok (.iconst 4, 1) := by decide +kernel
theorem dX11_desk_5 : decode cX11_desk 5 = .ok (.iaload, 1) := by decide +kernel
theorem dX11_desk_6 : decode cX11_desk 6 = .ok (.ifCond .eq 15, 3) := by decide +kernel
theorem dX11_desk_21 : decode cX11_desk 21 = .ok (.bipush (-2), 2) := by decide +kernel
theorem dX11_desk_23 : decode cX11_desk 23 = .ok (.ireturn, 1) := by decide +kernel
theorem dX11_one_0 : decode cX11_one 0 = .ok (.aload_n 0, 1) := by decide +kernel
theorem dX11_one_1 : decode cX11_one 1 = .ok (.iload_n 1, 1) := by decide +kernel
theorem dX11_one_2 : decode cX11_one 2 = .ok (.i2l, 1) := by decide +kernel
theorem dX11_one_3 : decode cX11_one 3 = .ok (.invokevirtual 89, 3) := by decide +kernel
theorem dX11_one_6 : decode cX11_one 6 = .ok (.ifCond .eq 17, 3) := by decide +kernel
theorem dX11_one_23 : decode cX11_one 23 = .ok (.bipush (-2), 2) := by decide +kernel
theorem dX11_one_25 : decode cX11_one 25 = .ok (.ireturn, 1) := by decide +kernel
theorem dX11_two_0 : decode cX11_two 0 = .ok (.aload_n 0, 1) := by decide +kernel
theorem dX11_two_1 : decode cX11_two 1 = .ok (.iload_n 1, 1) := by decide +kernel
theorem dX11_two_2 : decode cX11_two 2 = .ok (.i2l, 1) := by decide +kernel
theorem dX11_two_3 : decode cX11_two 3 = .ok (.invokevirtual 89, 3) := by decide +kernel
theorem dX11_two_6 : decode cX11_two 6 = .ok (.ifCond .eq 26, 3) := by decide +kernel
theorem dX11_two_32 : decode cX11_two 32 = .ok (.bipush (-2), 2) := by decide +kernel
theorem dX11_two_34 : decode cX11_two 34 = .ok (.ireturn, 1) := by decide +kernel
theorem dX11_way_0 : decode cX11_way 0 = .ok (.aload_n 0, 1) := by decide +kernel
theorem dX11_way_1 : decode cX11_way 1 = .ok (.iload_n 1, 1) := by decide +kernel
theorem dX11_way_2 : decode cX11_way 2 = .ok (.i2l, 1) := by decide +kernel
theorem dX11_way_3 : decode cX11_way 3 = .ok (.invokevirtual 89, 3) := by decide +kernel
theorem dX11_way_6 : decode cX11_way 6 = .ok (.ifCond .eq 22, 3) := by decide +kernel
theorem dX11_way_28 : decode cX11_way 28 = .ok (.bipush (-2), 2) := by decide +kernel
theorem dX11_way_30 : decode cX11_way 30 = .ok (.ireturn, 1) := by decide +kernel
theorem dX11_slips_0 : decode cX11_slips 0 = .ok (.aload_n 0, 1) := by decide +kernel
theorem dX11_slips_1 : decode cX11_slips 1 = .ok (.iload_n 1, 1) := by decide +kernel
theorem dX11_slips_2 : decode cX11_slips 2 = .ok (.aload_n 0, 1) := by decide +kernel
theorem dX11_slips_3 : decode cX11_slips 3 = .ok (.iload_n 2, 1) := by decide +kernel
theorem dX11_slips_4 : decode cX11_slips 4 = .ok (.i2l, 1) := by decide +kernel
theorem dX11_slips_5 : decode cX11_slips 5 = .ok (.invokevirtual 89, 3) := by decide +kernel
theorem dX11_slips_8 : decode cX11_slips 8 = .ok (.invokevirtual 303, 3) := by decide +kernel
theorem dX11_slips_11 : decode cX11_slips 11 = .ok (.istore_n 3, 1) := by decide +kernel
theorem dX11_slips_12 : decode cX11_slips 12 = .ok (.iload_n 3, 1) := by decide +kernel
theorem dX11_slips_13 : decode cX11_slips 13 = .ok (.ifCond .ge 5, 3) := by decide +kernel
theorem dX11_slips_16 : decode cX11_slips 16 = .ok (.iload_n 3, 1) := by decide +kernel
theorem dX11_slips_17 : decode cX11_slips 17 = .ok (.ireturn, 1) := by decide +kernel
theorem dX11_boys_0 : decode cX11_boys 0 = .ok (.aload_n 0, 1) := by decide +kernel
theorem dX11_boys_1 : decode cX11_boys 1 = .ok (.getfield 9, 3) := by decide +kernel
theorem dX11_boys_4 : decode cX11_boys 4 = .ok (.iconst 4, 1) := by decide +kernel
theorem dX11_boys_5 : decode cX11_boys 5 = .ok (.iaload, 1) := by decide +kernel
theorem dX11_boys_6 : decode cX11_boys 6 = .ok (.ifCond .ne 6, 3) := by decide +kernel
theorem dX11_boys_9 : decode cX11_boys 9 = .ok (.bipush (-2), 2) := by decide +kernel
theorem dX11_boys_11 : decode cX11_boys 11 = .ok (.ireturn, 1) := by decide +kernel
theorem dX11_pairs_0 : decode cX11_pairs 0 = .ok (.aload_n 0, 1) := by decide +kernel
theorem dX11_pairs_1 : decode cX11_pairs 1 = .ok (.getfield 9, 3) := by decide +kernel
theorem dX11_pairs_4 : decode cX11_pairs 4 = .ok (.iconst 4, 1) := by decide +kernel
theorem dX11_pairs_5 : decode cX11_pairs 5 = .ok (.iaload, 1) := by decide +kernel
theorem dX11_pairs_6 : decode cX11_pairs 6 = .ok (.ifCond .ne 6, 3) := by decide +kernel
theorem dX11_pairs_9 : decode cX11_pairs 9 = .ok (.bipush (-2), 2) := by decide +kernel
theorem dX11_pairs_11 : decode cX11_pairs 11 = .ok (.ireturn, 1) := by decide +kernel
theorem dX11_which_0 : decode cX11_which 0 = .ok (.aload_n 0, 1) := by decide +kernel
theorem dX11_which_1 : decode cX11_which 1 = .ok (.iload_n 1, 1) := by decide +kernel
theorem dX11_which_2 : decode cX11_which 2 = .ok (.invokevirtual 375, 3) := by decide +kernel
theorem dX11_which_5 : decode cX11_which 5 = .ok (.ifCond .ne 6, 3) := by decide +kernel
theorem dX11_which_8 : decode cX11_which 8 = .ok (.bipush (-2), 2) := by decide +kernel
theorem dX11_which_10 : decode cX11_which 10 = .ok (.ireturn, 1) := by decide +kernel
theorem dX11_question_0 : decode cX11_question 0 = .ok (.aload_n 0, 1) := by decide +kernel
theorem dX11_question_1 : decode cX11_question 1 = .ok (.iload_n 1, 1) := by decide +kernel
theorem dX11_question_2 : decode cX11_question 2 = .ok (.invokevirtual 375, 3) := by decide +kernel
theorem dX11_question_5 : decode cX11_question 5 = .ok (.ifCond .ne 6, 3) := by decide +kernel
theorem dX11_question_8 : decode cX11_question 8 = .ok (.bipush (-2), 2) := by decide +kernel
theorem dX11_question_10 : decode cX11_question 10 = .ok (.ireturn, 1) := by decide +kernel
theorem dX11_yes_0 : decode cX11_yes 0 = .ok (.aload_n 0, 1) := by decide +kernel
theorem dX11_yes_1 : decode cX11_yes 1 = .ok (.iload_n 1, 1) := by decide +kernel
theorem dX11_yes_2 : decode cX11_yes 2 = .ok (.invokevirtual 375, 3) := by decide +kernel
theorem dX11_yes_5 : decode cX11_yes 5 = .ok (.ifCond .eq 24, 3) := by decide +kernel
theorem dX11_yes_29 : decode cX11_yes 29 = .ok (.bipush (-2), 2) := by decide +kernel
theorem dX11_yes_31 : decode cX11_yes 31 = .ok (.ireturn, 1) := by decide +kernel
theorem dX11_list_0 : decode cX11_list 0 = .ok (.aload_n 0, 1) := by decide +kernel
theorem dX11_list_1 : decode cX11_list 1 = .ok (.iload_n 1, 1) := by decide +kernel
theorem dX11_list_2 : decode cX11_list 2 = .ok (.invokevirtual 375, 3) := by decide +kernel
theorem dX11_list_5 : decode cX11_list 5 = .ok (.ifCond .ne 6, 3) := by decide +kernel
theorem dX11_list_8 : decode cX11_list 8 = .ok (.bipush (-2), 2) := by decide +kernel
theorem dX11_list_10 : decode cX11_list 10 = .ok (.ireturn, 1) := by decide +kernel
theorem dX11_meant_0 : decode cX11_meant 0 = .ok (.aload_n 0, 1) := by decide +kernel
theorem dX11_meant_1 : decode cX11_meant 1 = .ok (.iload_n 1, 1) := by decide +kernel
theorem dX11_meant_2 : decode cX11_meant 2 = .ok (.invokevirtual 375, 3) := by decide +kernel
theorem dX11_meant_5 : decode cX11_meant 5 = .ok (.ifCond .eq 21, 3) := by decide +kernel
theorem dX11_meant_26 : decode cX11_meant 26 = .ok (.bipush (-2), 2) := by decide +kernel
theorem dX11_meant_28 : decode cX11_meant 28 = .ok (.ireturn, 1) := by decide +kernel
theorem dX11_read_0 : decode cX11_read 0 = .ok (.aload_n 0, 1) := by decide +kernel
theorem dX11_read_1 : decode cX11_read 1 = .ok (.iload_n 1, 1) := by decide +kernel
theorem dX11_read_2 : decode cX11_read 2 = .ok (.invokevirtual 230, 3) := by decide +kernel
theorem dX11_read_5 : decode cX11_read 5 = .ok (.ifCond .eq 21, 3) := by decide +kernel
theorem dX11_read_26 : decode cX11_read 26 = .ok (.ldc2_w 401, 3) := by decide +kernel
theorem dX11_read_29 : decode cX11_read 29 = .ok (.lreturn, 1) := by decide +kernel
theorem dX11_guess_0 : decode cX11_guess 0 = .ok (.aload_n 0, 1) := by decide +kernel
theorem dX11_guess_1 : decode cX11_guess 1 = .ok (.iload_n 1, 1) := by decide +kernel
theorem dX11_guess_2 : decode cX11_guess 2 = .ok (.invokevirtual 230, 3) := by decide +kernel
theorem dX11_guess_5 : decode cX11_guess 5 = .ok (.ifCond .ne 6, 3) := by decide +kernel
theorem dX11_guess_8 : decode cX11_guess 8 = .ok (.bipush (-2), 2) := by decide +kernel
theorem dX11_guess_10 : decode cX11_guess 10 = .ok (.ireturn, 1) := by decide +kernel
theorem dX11_right_0 : decode cX11_right 0 = .ok (.aload_n 0, 1) := by decide +kernel
theorem dX11_right_1 : decode cX11_right 1 = .ok (.getfield 9, 3) := by decide +kernel
theorem dX11_right_4 : decode cX11_right 4 = .ok (.iconst 5, 1) := by decide +kernel
theorem dX11_right_5 : decode cX11_right 5 = .ok (.iaload, 1) := by decide +kernel
theorem dX11_right_6 : decode cX11_right 6 = .ok (.ifCond .eq 13, 3) := by decide +kernel
theorem dX11_right_19 : decode cX11_right 19 = .ok (.ldc2_w 401, 3) := by decide +kernel
theorem dX11_right_22 : decode cX11_right 22 = .ok (.lreturn, 1) := by decide +kernel
theorem dX11_habit_0 : decode cX11_habit 0 = .ok (.aload_n 0, 1) := by decide +kernel
theorem dX11_habit_1 : decode cX11_habit 1 = .ok (.iload_n 1, 1) := by decide +kernel
theorem dX11_habit_2 : decode cX11_habit 2 = .ok (.iconst 1, 1) := by decide +kernel
theorem dX11_habit_3 : decode cX11_habit 3 = .ok (.invokevirtual 406, 3) := by decide +kernel
theorem dX11_habit_6 : decode cX11_habit 6 = .ok (.istore_n 2, 1) := by decide +kernel
theorem dX11_habit_7 : decode cX11_habit 7 = .ok (.iload_n 2, 1) := by decide +kernel
theorem dX11_habit_8 : decode cX11_habit 8 = .ok (.ifCond .ge 7, 3) := by decide +kernel
theorem dX11_habit_11 : decode cX11_habit 11 = .ok (.iload_n 2, 1) := by decide +kernel
theorem dX11_habit_12 : decode cX11_habit 12 = .ok (.goto 9, 3) := by decide +kernel
theorem dX11_habit_21 : decode cX11_habit 21 = .ok (.ireturn, 1) := by decide +kernel
theorem dX11_follows_0 : decode cX11_follows 0 = .ok (.aload_n 0, 1) := by decide +kernel
theorem dX11_follows_1 : decode cX11_follows 1 = .ok (.iload_n 1, 1) := by decide +kernel
theorem dX11_follows_2 : decode cX11_follows 2 = .ok (.aload_n 0, 1) := by decide +kernel
theorem dX11_follows_3 : decode cX11_follows 3 = .ok (.iload_n 2, 1) := by decide +kernel
theorem dX11_follows_4 : decode cX11_follows 4 = .ok (.i2l, 1) := by decide +kernel
theorem dX11_follows_5 : decode cX11_follows 5 = .ok (.invokevirtual 89, 3) := by decide +kernel
theorem dX11_follows_8 : decode cX11_follows 8 = .ok (.invokevirtual 406, 3) := by decide +kernel
theorem dX11_follows_11 : decode cX11_follows 11 = .ok (.istore_n 3, 1) := by decide +kernel
theorem dX11_follows_12 : decode cX11_follows 12 = .ok (.iload_n 3, 1) := by decide +kernel
theorem dX11_follows_13 : decode cX11_follows 13 = .ok (.ifCond .ge 7, 3) := by decide +kernel
theorem dX11_follows_16 : decode cX11_follows 16 = .ok (.iload_n 3, 1) := by decide +kernel
theorem dX11_follows_17 : decode cX11_follows 17 = .ok (.goto 9, 3) := by decide +kernel
theorem dX11_follows_26 : decode cX11_follows 26 = .ok (.ireturn, 1) := by decide +kernel
theorem dX11_period_0 : decode cX11_period 0 = .ok (.aload_n 0, 1) := by decide +kernel
theorem dX11_period_1 : decode cX11_period 1 = .ok (.iload_n 1, 1) := by decide +kernel
theorem dX11_period_2 : decode cX11_period 2 = .ok (.iconst 1, 1) := by decide +kernel
theorem dX11_period_3 : decode cX11_period 3 = .ok (.invokevirtual 406, 3) := by decide +kernel
theorem dX11_period_6 : decode cX11_period 6 = .ok (.istore_n 2, 1) := by decide +kernel
theorem dX11_period_7 : decode cX11_period 7 = .ok (.iload_n 2, 1) := by decide +kernel
theorem dX11_period_8 : decode cX11_period 8 = .ok (.ifCond .ge 5, 3) := by decide +kernel
theorem dX11_period_11 : decode cX11_period 11 = .ok (.iload_n 2, 1) := by decide +kernel
theorem dX11_period_12 : decode cX11_period 12 = .ok (.ireturn, 1) := by decide +kernel
theorem dX11_drawn_0 : decode cX11_drawn 0 = .ok (.aload_n 0, 1) := by decide +kernel
theorem dX11_drawn_1 : decode cX11_drawn 1 = .ok (.iload_n 2, 1) := by decide +kernel
theorem dX11_drawn_2 : decode cX11_drawn 2 = .ok (.iload_n 1, 1) := by decide +kernel
theorem dX11_drawn_3 : decode cX11_drawn 3 = .ok (.invokestatic 441, 3) := by decide +kernel
theorem dX11_drawn_6 : decode cX11_drawn 6 = .ok (.ifCond .eq 17, 3) := by decide +kernel
theorem dX11_drawn_23 : decode cX11_drawn 23 = .ok (.iconst 0, 1) := by decide +kernel
theorem dX11_drawn_24 : decode cX11_drawn 24 = .ok (.invokevirtual 303, 3) := by decide +kernel
theorem dX11_drawn_27 : decode cX11_drawn 27 = .ok (.istore 4, 2) := by decide +kernel
theorem dX11_drawn_29 : decode cX11_drawn 29 = .ok (.iload 4, 2) := by decide +kernel
theorem dX11_drawn_31 : decode cX11_drawn 31 = .ok (.ifCond .ge 6, 3) := by decide +kernel
theorem dX11_drawn_34 : decode cX11_drawn 34 = .ok (.iload 4, 2) := by decide +kernel
theorem dX11_drawn_36 : decode cX11_drawn 36 = .ok (.ireturn, 1) := by decide +kernel
theorem dX11_drawn_9 : decode cX11_drawn 9 = .ok (.iload_n 3, 1) := by decide +kernel
theorem dX11_drawn_10 : decode cX11_drawn 10 = .ok (.i2l, 1) := by decide +kernel
theorem dX11_drawn_11 : decode cX11_drawn 11 = .ok (.lconst 0, 1) := by decide +kernel
theorem dX11_drawn_12 : decode cX11_drawn 12 = .ok (.lconst 1, 1) := by decide +kernel
theorem dX11_drawn_13 : decode cX11_drawn 13 = .ok (.invokestatic 79, 3) := by decide +kernel
theorem dX11_drawn_16 : decode cX11_drawn 16 = .ok (.ifCond .eq 7, 3) := by decide +kernel
theorem dX11_drawn_19 : decode cX11_drawn 19 = .ok (.iconst 1, 1) := by decide +kernel
theorem dX11_drawn_20 : decode cX11_drawn 20 = .ok (.goto 4, 3) := by decide +kernel
theorem dX11_lot_0 : decode cX11_lot 0 = .ok (.aload_n 0, 1) := by decide +kernel
theorem dX11_lot_1 : decode cX11_lot 1 = .ok (.iload_n 2, 1) := by decide +kernel
theorem dX11_lot_2 : decode cX11_lot 2 = .ok (.iload_n 1, 1) := by decide +kernel
theorem dX11_lot_3 : decode cX11_lot 3 = .ok (.invokestatic 441, 3) := by decide +kernel
theorem dX11_lot_6 : decode cX11_lot 6 = .ok (.ifCond .eq 19, 3) := by decide +kernel
theorem dX11_lot_25 : decode cX11_lot 25 = .ok (.iconst 0, 1) := by decide +kernel
theorem dX11_lot_26 : decode cX11_lot 26 = .ok (.invokevirtual 303, 3) := by decide +kernel
theorem dX11_lot_29 : decode cX11_lot 29 = .ok (.istore 4, 2) := by decide +kernel
theorem dX11_lot_31 : decode cX11_lot 31 = .ok (.iload 4, 2) := by decide +kernel
theorem dX11_lot_33 : decode cX11_lot 33 = .ok (.ifCond .ge 6, 3) := by decide +kernel
theorem dX11_lot_36 : decode cX11_lot 36 = .ok (.iload 4, 2) := by decide +kernel
theorem dX11_lot_38 : decode cX11_lot 38 = .ok (.ireturn, 1) := by decide +kernel
theorem dX11_lot_9 : decode cX11_lot 9 = .ok (.iload_n 3, 1) := by decide +kernel
theorem dX11_lot_10 : decode cX11_lot 10 = .ok (.i2l, 1) := by decide +kernel
theorem dX11_lot_11 : decode cX11_lot 11 = .ok (.lconst 1, 1) := by decide +kernel
theorem dX11_lot_12 : decode cX11_lot 12 = .ok (.ldc2_w 448, 3) := by decide +kernel
theorem dX11_lot_15 : decode cX11_lot 15 = .ok (.invokestatic 79, 3) := by decide +kernel
theorem dX11_lot_18 : decode cX11_lot 18 = .ok (.ifCond .eq 7, 3) := by decide +kernel
theorem dX11_lot_21 : decode cX11_lot 21 = .ok (.iconst 1, 1) := by decide +kernel
theorem dX11_lot_22 : decode cX11_lot 22 = .ok (.goto 4, 3) := by decide +kernel
theorem dX11_tell_0 : decode cX11_tell 0 = .ok (.aload_n 0, 1) := by decide +kernel
theorem dX11_tell_1 : decode cX11_tell 1 = .ok (.iload_n 1, 1) := by decide +kernel
theorem dX11_tell_2 : decode cX11_tell 2 = .ok (.i2l, 1) := by decide +kernel
theorem dX11_tell_3 : decode cX11_tell 3 = .ok (.invokevirtual 89, 3) := by decide +kernel
theorem dX11_tell_6 : decode cX11_tell 6 = .ok (.ifCond .eq 48, 3) := by decide +kernel
theorem dX11_tell_54 : decode cX11_tell 54 = .ok (.bipush (-2), 2) := by decide +kernel
theorem dX11_tell_56 : decode cX11_tell 56 = .ok (.ireturn, 1) := by decide +kernel
theorem dX11_shut_0 : decode cX11_shut 0 = .ok (.aload_n 0, 1) := by decide +kernel
theorem dX11_shut_1 : decode cX11_shut 1 = .ok (.iload_n 1, 1) := by decide +kernel
theorem dX11_shut_2 : decode cX11_shut 2 = .ok (.i2l, 1) := by decide +kernel
theorem dX11_shut_3 : decode cX11_shut 3 = .ok (.invokevirtual 89, 3) := by decide +kernel
theorem dX11_shut_6 : decode cX11_shut 6 = .ok (.ifCond .eq 27, 3) := by decide +kernel
theorem dX11_shut_33 : decode cX11_shut 33 = .ok (.bipush (-2), 2) := by decide +kernel
theorem dX11_shut_35 : decode cX11_shut 35 = .ok (.ireturn, 1) := by decide +kernel
theorem dX11_gain_0 : decode cX11_gain 0 = .ok (.aload_n 0, 1) := by decide +kernel
theorem dX11_gain_1 : decode cX11_gain 1 = .ok (.iload_n 1, 1) := by decide +kernel
theorem dX11_gain_2 : decode cX11_gain 2 = .ok (.iconst 1, 1) := by decide +kernel
theorem dX11_gain_3 : decode cX11_gain 3 = .ok (.invokevirtual 303, 3) := by decide +kernel
theorem dX11_gain_6 : decode cX11_gain 6 = .ok (.istore_n 2, 1) := by decide +kernel
theorem dX11_gain_7 : decode cX11_gain 7 = .ok (.iload_n 2, 1) := by decide +kernel
theorem dX11_gain_8 : decode cX11_gain 8 = .ok (.bipush (-2), 2) := by decide +kernel
theorem dX11_gain_10 : decode cX11_gain 10 = .ok (.if_icmp .ne 9, 3) := by decide +kernel
theorem dX11_gain_13 : decode cX11_gain 13 = .ok (.ldc_w 307, 3) := by decide +kernel
theorem dX11_gain_16 : decode cX11_gain 16 = .ok (.goto 27, 3) := by decide +kernel
theorem dX11_gain_43 : decode cX11_gain 43 = .ok (.ireturn, 1) := by decide +kernel
theorem dX11_count_0 : decode cX11_count 0 = .ok (.iconst 0, 1) := by decide +kernel
theorem dX11_count_1 : decode cX11_count 1 = .ok (.istore_n 2, 1) := by decide +kernel
theorem dX11_count_2 : decode cX11_count 2 = .ok (.iload_n 1, 1) := by decide +kernel
theorem dX11_count_3 : decode cX11_count 3 = .ok (.tableswitch 176 0 7 #[45, 52, 86, 93, 122, 130, 135, 143], 45) := by decide +kernel
theorem dX11_count_179 : decode cX11_count 179 = .ok (.iconst (-1), 1) := by decide +kernel
theorem dX11_count_180 : decode cX11_count 180 = .ok (.ireturn, 1) := by decide +kernel
theorem dX11_count_48 : decode cX11_count 48 = .ok (.aload_n 0, 1) := by decide +kernel
theorem dX11_count_49 : decode cX11_count 49 = .ok (.getfield 9, 3) := by decide +kernel
theorem dX11_count_52 : decode cX11_count 52 = .ok (.iconst 4, 1) := by decide +kernel
theorem dX11_count_53 : decode cX11_count 53 = .ok (.iaload, 1) := by decide +kernel
theorem dX11_count_54 : decode cX11_count 54 = .ok (.ireturn, 1) := by decide +kernel
theorem dX11_count_55 : decode cX11_count 55 = .ok (.iconst 0, 1) := by decide +kernel
theorem dX11_count_56 : decode cX11_count 56 = .ok (.istore_n 3, 1) := by decide +kernel
theorem dX11_count_57 : decode cX11_count 57 = .ok (.iload_n 3, 1) := by decide +kernel
theorem dX11_count_58 : decode cX11_count 58 = .ok (.aload_n 0, 1) := by decide +kernel
theorem dX11_count_59 : decode cX11_count 59 = .ok (.getfield 9, 3) := by decide +kernel
theorem dX11_count_62 : decode cX11_count 62 = .ok (.iconst 4, 1) := by decide +kernel
theorem dX11_count_63 : decode cX11_count 63 = .ok (.iaload, 1) := by decide +kernel
theorem dX11_count_64 : decode cX11_count 64 = .ok (.if_icmp .ge 21, 3) := by decide +kernel
theorem dX11_count_85 : decode cX11_count 85 = .ok (.iload_n 2, 1) := by decide +kernel
theorem dX11_count_86 : decode cX11_count 86 = .ok (.iconst 2, 1) := by decide +kernel
theorem dX11_count_87 : decode cX11_count 87 = .ok (.idiv, 1) := by decide +kernel
theorem dX11_count_88 : decode cX11_count 88 = .ok (.ireturn, 1) := by decide +kernel
theorem dX11_count_89 : decode cX11_count 89 = .ok (.aload_n 0, 1) := by decide +kernel
theorem dX11_count_90 : decode cX11_count 90 = .ok (.getfield 9, 3) := by decide +kernel
theorem dX11_count_93 : decode cX11_count 93 = .ok (.iconst 5, 1) := by decide +kernel
theorem dX11_count_94 : decode cX11_count 94 = .ok (.iaload, 1) := by decide +kernel
theorem dX11_count_95 : decode cX11_count 95 = .ok (.ireturn, 1) := by decide +kernel
theorem dX11_count_96 : decode cX11_count 96 = .ok (.iconst 0, 1) := by decide +kernel
theorem dX11_count_97 : decode cX11_count 97 = .ok (.istore_n 3, 1) := by decide +kernel
theorem dX11_count_98 : decode cX11_count 98 = .ok (.iload_n 3, 1) := by decide +kernel
theorem dX11_count_99 : decode cX11_count 99 = .ok (.aload_n 0, 1) := by decide +kernel
theorem dX11_count_100 : decode cX11_count 100 = .ok (.getfield 9, 3) := by decide +kernel
theorem dX11_count_103 : decode cX11_count 103 = .ok (.iconst 4, 1) := by decide +kernel
theorem dX11_count_104 : decode cX11_count 104 = .ok (.iaload, 1) := by decide +kernel
theorem dX11_count_105 : decode cX11_count 105 = .ok (.if_icmp .ge 18, 3) := by decide +kernel
theorem dX11_count_123 : decode cX11_count 123 = .ok (.iload_n 2, 1) := by decide +kernel
theorem dX11_count_124 : decode cX11_count 124 = .ok (.ireturn, 1) := by decide +kernel
theorem dX11_count_125 : decode cX11_count 125 = .ok (.aload_n 0, 1) := by decide +kernel
theorem dX11_count_126 : decode cX11_count 126 = .ok (.getfield 9, 3) := by decide +kernel
theorem dX11_count_129 : decode cX11_count 129 = .ok (.bipush 6, 2) := by decide +kernel
theorem dX11_count_131 : decode cX11_count 131 = .ok (.iaload, 1) := by decide +kernel
theorem dX11_count_132 : decode cX11_count 132 = .ok (.ireturn, 1) := by decide +kernel
theorem dX11_count_133 : decode cX11_count 133 = .ok (.aload_n 0, 1) := by decide +kernel
theorem dX11_count_134 : decode cX11_count 134 = .ok (.getfield 93, 3) := by decide +kernel
theorem dX11_count_137 : decode cX11_count 137 = .ok (.ireturn, 1) := by decide +kernel
theorem dX11_count_138 : decode cX11_count 138 = .ok (.aload_n 0, 1) := by decide +kernel
theorem dX11_count_139 : decode cX11_count 139 = .ok (.getfield 9, 3) := by decide +kernel
theorem dX11_count_142 : decode cX11_count 142 = .ok (.bipush 7, 2) := by decide +kernel
theorem dX11_count_144 : decode cX11_count 144 = .ok (.iaload, 1) := by decide +kernel
theorem dX11_count_145 : decode cX11_count 145 = .ok (.ireturn, 1) := by decide +kernel
theorem dX11_count_146 : decode cX11_count 146 = .ok (.iconst 0, 1) := by decide +kernel
theorem dX11_count_147 : decode cX11_count 147 = .ok (.istore_n 3, 1) := by decide +kernel
theorem dX11_count_148 : decode cX11_count 148 = .ok (.iload_n 3, 1) := by decide +kernel
theorem dX11_count_149 : decode cX11_count 149 = .ok (.iconst 4, 1) := by decide +kernel
theorem dX11_count_150 : decode cX11_count 150 = .ok (.if_icmp .ge 27, 3) := by decide +kernel
theorem dX11_count_153 : decode cX11_count 153 = .ok (.iload_n 2, 1) := by decide +kernel
theorem dX11_count_154 : decode cX11_count 154 = .ok (.aload_n 0, 1) := by decide +kernel
theorem dX11_count_155 : decode cX11_count 155 = .ok (.getfield 61, 3) := by decide +kernel
theorem dX11_count_158 : decode cX11_count 158 = .ok (.iload_n 3, 1) := by decide +kernel
theorem dX11_count_159 : decode cX11_count 159 = .ok (.iaload, 1) := by decide +kernel
theorem dX11_count_160 : decode cX11_count 160 = .ok (.iconst (-1), 1) := by decide +kernel
theorem dX11_count_161 : decode cX11_count 161 = .ok (.if_icmp .ne 7, 3) := by decide +kernel
theorem dX11_count_164 : decode cX11_count 164 = .ok (.iconst 0, 1) := by decide +kernel
theorem dX11_count_165 : decode cX11_count 165 = .ok (.goto 4, 3) := by decide +kernel
theorem dX11_count_169 : decode cX11_count 169 = .ok (.iadd, 1) := by decide +kernel
theorem dX11_count_170 : decode cX11_count 170 = .ok (.istore_n 2, 1) := by decide +kernel
theorem dX11_count_171 : decode cX11_count 171 = .ok (.iinc 3 1, 3) := by decide +kernel
theorem dX11_count_174 : decode cX11_count 174 = .ok (.goto (-26), 3) := by decide +kernel
theorem dX11_count_177 : decode cX11_count 177 = .ok (.iload_n 2, 1) := by decide +kernel
theorem dX11_count_178 : decode cX11_count 178 = .ok (.ireturn, 1) := by decide +kernel
theorem dX11_back_0 : decode cX11_back 0 = .ok (.iload_n 1, 1) := by decide +kernel
theorem dX11_back_1 : decode cX11_back 1 = .ok (.i2l, 1) := by decide +kernel
theorem dX11_back_2 : decode cX11_back 2 = .ok (.lconst 0, 1) := by decide +kernel
theorem dX11_back_3 : decode cX11_back 3 = .ok (.ldc2_w 77, 3) := by decide +kernel
theorem dX11_back_6 : decode cX11_back 6 = .ok (.invokestatic 79, 3) := by decide +kernel
theorem dX11_back_9 : decode cX11_back 9 = .ok (.ifCond .ne 6, 3) := by decide +kernel
theorem dX11_back_12 : decode cX11_back 12 = .ok (.bipush (-2), 2) := by decide +kernel
theorem dX11_back_14 : decode cX11_back 14 = .ok (.ireturn, 1) := by decide +kernel
theorem dX11_back_15 : decode cX11_back 15 = .ok (.aload_n 0, 1) := by decide +kernel
theorem dX11_back_16 : decode cX11_back 16 = .ok (.getfield 16, 3) := by decide +kernel
theorem dX11_back_19 : decode cX11_back 19 = .ok (.iload_n 1, 1) := by decide +kernel
theorem dX11_back_20 : decode cX11_back 20 = .ok (.baload, 1) := by decide +kernel
theorem dX11_back_21 : decode cX11_back 21 = .ok (.ifCond .ne 6, 3) := by decide +kernel
theorem dX11_back_24 : decode cX11_back 24 = .ok (.bipush (-6), 2) := by decide +kernel
theorem dX11_back_26 : decode cX11_back 26 = .ok (.ireturn, 1) := by decide +kernel
theorem dX11_write_0 : decode cX11_write 0 = .ok (.iload_n 1, 1) := by decide +kernel
theorem dX11_write_1 : decode cX11_write 1 = .ok (.invokestatic 290, 3) := by decide +kernel
theorem dX11_write_4 : decode cX11_write 4 = .ok (.ifCond .ne 6, 3) := by decide +kernel
theorem dX11_write_7 : decode cX11_write 7 = .ok (.bipush (-2), 2) := by decide +kernel
theorem dX11_write_9 : decode cX11_write 9 = .ok (.ireturn, 1) := by decide +kernel
theorem dX11_write_10 : decode cX11_write 10 = .ok (.aload_n 0, 1) := by decide +kernel
theorem dX11_write_11 : decode cX11_write 11 = .ok (.getfield 61, 3) := by decide +kernel
theorem dX11_write_14 : decode cX11_write 14 = .ok (.iload_n 1, 1) := by decide +kernel
theorem dX11_write_15 : decode cX11_write 15 = .ok (.iaload, 1) := by decide +kernel
theorem dX11_write_16 : decode cX11_write 16 = .ok (.iconst (-1), 1) := by decide +kernel
theorem dX11_write_17 : decode cX11_write 17 = .ok (.if_icmp .ne 6, 3) := by decide +kernel
theorem dX11_write_20 : decode cX11_write 20 = .ok (.bipush (-6), 2) := by decide +kernel
theorem dX11_write_22 : decode cX11_write 22 = .ok (.ireturn, 1) := by decide +kernel
theorem dX11_paste_0 : decode cX11_paste 0 = .ok (.iload_n 1, 1) := by decide +kernel
theorem dX11_paste_1 : decode cX11_paste 1 = .ok (.invokestatic 290, 3) := by decide +kernel
theorem dX11_paste_4 : decode cX11_paste 4 = .ok (.ifCond .eq 10, 3) := by decide +kernel
theorem dX11_paste_14 : decode cX11_paste 14 = .ok (.bipush (-2), 2) := by decide +kernel
theorem dX11_paste_16 : decode cX11_paste 16 = .ok (.ireturn, 1) := by decide +kernel
theorem dX11_paste_7 : decode cX11_paste 7 = .ok (.iload_n 3, 1) := by decide +kernel
theorem dX11_paste_8 : decode cX11_paste 8 = .ok (.invokestatic 290, 3) := by decide +kernel
theorem dX11_paste_11 : decode cX11_paste 11 = .ok (.ifCond .ne 6, 3) := by decide +kernel
theorem dX11_paste_17 : decode cX11_paste 17 = .ok (.aload_n 0, 1) := by decide +kernel
theorem dX11_paste_18 : decode cX11_paste 18 = .ok (.getfield 61, 3) := by decide +kernel
theorem dX11_paste_21 : decode cX11_paste 21 = .ok (.iload_n 1, 1) := by decide +kernel
theorem dX11_paste_22 : decode cX11_paste 22 = .ok (.iaload, 1) := by decide +kernel
theorem dX11_paste_23 : decode cX11_paste 23 = .ok (.iconst (-1), 1) := by decide +kernel
theorem dX11_paste_24 : decode cX11_paste 24 = .ok (.if_icmp .eq 13, 3) := by decide +kernel
theorem dX11_paste_37 : decode cX11_paste 37 = .ok (.bipush (-6), 2) := by decide +kernel
theorem dX11_paste_39 : decode cX11_paste 39 = .ok (.ireturn, 1) := by decide +kernel
theorem dX11_fault_0 : decode cX11_fault 0 = .ok (.iload_n 1, 1) := by decide +kernel
theorem dX11_fault_1 : decode cX11_fault 1 = .ok (.ifCond .ne 10, 3) := by decide +kernel
theorem dX11_fault_4 : decode cX11_fault 4 = .ok (.aload_n 0, 1) := by decide +kernel
theorem dX11_fault_5 : decode cX11_fault 5 = .ok (.getfield 130, 3) := by decide +kernel
theorem dX11_fault_8 : decode cX11_fault 8 = .ok (.goto 16, 3) := by decide +kernel
theorem dX11_fault_24 : decode cX11_fault 24 = .ok (.ireturn, 1) := by decide +kernel
theorem dX11_fault_11 : decode cX11_fault 11 = .ok (.iload_n 1, 1) := by decide +kernel
theorem dX11_fault_12 : decode cX11_fault 12 = .ok (.iconst 1, 1) := by decide +kernel
theorem dX11_fault_13 : decode cX11_fault 13 = .ok (.if_icmp .ne 10, 3) := by decide +kernel
theorem dX11_fault_16 : decode cX11_fault 16 = .ok (.aload_n 0, 1) := by decide +kernel
theorem dX11_fault_17 : decode cX11_fault 17 = .ok (.getfield 27, 3) := by decide +kernel
theorem dX11_fault_20 : decode cX11_fault 20 = .ok (.goto 4, 3) := by decide +kernel
theorem dX11_fault_23 : decode cX11_fault 23 = .ok (.iconst (-1), 1) := by decide +kernel
end
section
set_option maxRecDepth 100000 in
set_option maxHeartbeats 4000000 in
theorem pX3_hasRoom (l : Launch) (G : va_G) (cs : Nat → ClassId) (h : Nat) (q : Nat → Nat) (a1 : Int32) : PureI l yX3_hasRoom cX3_hasRoom 2 (some .boolean) 0 G (TY cs) [.ref (q 13), .int a1] [(xc13 cs h q)] 0 := by
  refine mkP (Qc := QPi 0) (by decide) (by simp [lg_sl, Value.category]) ?_
  intro p e s m args below meth c ls hx hb hml hr hlk hown ht hK hP hS hl
  have hl : lv_has ls 2 [(0, .ref (q 13)), (1, .int a1)] := hl
  refine lv_iload_n hx hb dX3_hasRoom_0 rfl (lv_at hl 1 rfl) ?_
  refine lv_if_lt (tgt := 16) hx hb dX3_hasRoom_1 (by decide) (fun c1 => ?_) (fun c1 => ?_)
  · refine lv_iconst (v := 0) hx hb dX3_hasRoom_16 (by decide) ?_
    exact retPz hx hb hr hlk hS dX3_hasRoom_17 (rfl) (rfl)
  · refine lv_iload_n hx hb dX3_hasRoom_4 rfl (lv_at hl 1 rfl) ?_
    refine lv_aload_n hx hb dX3_hasRoom_5 rfl (lv_at hl 0 rfl) ?_
    refine getF hx hb ht hown hK hP iTX3 0 5 rfl rfl (by decide) fl_RX3_49 rfl dX3_hasRoom_6 ?_
    refine lv_icmp_ge (tgt := 16) hx hb dX3_hasRoom_9 (by decide) (fun c3 => ?_) (fun c2 => False.elim (by have z0 := nltT c1; have z1 := nleT c2; have k0 : (0 : Int32).toInt = 0 := (by decide); omega))
    refine lv_iconst (v := 0) hx hb dX3_hasRoom_16 (by decide) ?_
    exact retPz hx hb hr hlk hS dX3_hasRoom_17 (rfl) (rfl)

set_option maxRecDepth 100000 in
set_option maxHeartbeats 4000000 in
theorem pX3_allRooms (l : Launch) (G : va_G) (cs : Nat → ClassId) (h : Nat) (q : Nat → Nat)  : PureI l yX3_allRooms cX3_allRooms 1 (some .int) 0 G (TY cs) [.ref (q 13)] [(xc13 cs h q)] 0 := by
  refine mkP (Qc := QPi 0) (by decide) (by simp [lg_sl, Value.category]) ?_
  intro p e s m args below meth c ls hx hb hml hr hlk hown ht hK hP hS hl
  have hl : lv_has ls 1 [(0, .ref (q 13))] := hl
  refine lv_iconst (v := 1) hx hb dX3_allRooms_0 (by decide) ?_
  refine lv_aload_n hx hb dX3_allRooms_1 rfl (lv_at hl 0 rfl) ?_
  refine getF hx hb ht hown hK hP iTX3 0 5 rfl rfl (by decide) fl_RX3_49 rfl dX3_allRooms_2 ?_
  refine lv_ishl hx hb dX3_allRooms_5 ?_
  refine lv_topi (fun v1 ev1 => ?_)
  obtain rfl : v1 = 1 := ev1.trans (by decide)
  refine lv_iconst (v := 1) hx hb dX3_allRooms_6 (by decide) ?_
  refine lv_isub hx hb dX3_allRooms_7 ?_
  refine lv_topi (fun v2 ev2 => ?_)
  obtain rfl : v2 = 0 := ev2.trans (by decide)
  exact retPi hx hb hr hlk hS dX3_allRooms_8 (rfl)

set_option maxRecDepth 100000 in
set_option maxHeartbeats 4000000 in
theorem pX3_countDoors (l : Launch) (G : va_G) (cs : Nat → ClassId) (h : Nat) (q : Nat → Nat)  : PureI l yX3_countDoors cX3_countDoors 3 (some .int) 0 G (TY cs) [.ref (q 13)] [(xc13 cs h q)] 0 := by
  refine mkP (Qc := QPi 0) (by decide) (by simp [lg_sl, Value.category]) ?_
  intro p e s m args below meth c ls hx hb hml hr hlk hown ht hK hP hS hl
  have hl : lv_has ls 3 [(0, .ref (q 13))] := hl
  refine lv_iconst (v := 0) hx hb dX3_countDoors_0 (by decide) ?_
  refine lv_istore_n (lv' := [(1, .int 0), (0, .ref (q 13))]) hx hb dX3_countDoors_1 rfl hl (by decide) rfl (fun ls hl => ?_)
  refine lv_iconst (v := 0) hx hb dX3_countDoors_2 (by decide) ?_
  refine lv_istore_n (lv' := [(2, .int 0), (1, .int 0), (0, .ref (q 13))]) hx hb dX3_countDoors_3 rfl hl (by decide) rfl (fun ls hl => ?_)
  refine lv_iload_n hx hb dX3_countDoors_4 rfl (lv_at hl 0 rfl) ?_
  refine lv_aload_n hx hb dX3_countDoors_5 rfl (lv_at hl 2 rfl) ?_
  refine getF hx hb ht hown hK hP iTX3 0 5 rfl rfl (by decide) fl_RX3_49 rfl dX3_countDoors_6 ?_
  refine lv_icmp_ge (tgt := 30) hx hb dX3_countDoors_9 (by decide) (fun c2 => ?_) (fun c1 => False.elim (by revert c1; decide))
  refine lv_iload_n hx hb dX3_countDoors_30 rfl (lv_at hl 1 rfl) ?_
  refine lv_iconst (v := 2) hx hb dX3_countDoors_31 (by decide) ?_
  refine lv_idiv hx hb dX3_countDoors_32 (by decide) ?_
  refine lv_topi (fun v3 ev3 => ?_)
  obtain rfl : v3 = 0 := ev3.trans (by decide)
  exact retPi hx hb hr hlk hS dX3_countDoors_33 (rfl)

set_option maxRecDepth 100000 in
set_option maxHeartbeats 4000000 in
theorem pX10_hasHouse (l : Launch) (G : va_G) (cs : Nat → ClassId) (h : Nat) (q : Nat → Nat)  : PureI l yX10_hasHouse cX10_hasHouse 1 (some .boolean) 0 G (TY cs) [.ref h] [(xc0 cs h q), (xc12 cs h q), (xc13 cs h q)] 0 := by
  refine mkP (Qc := QPi 0) (by decide) (by simp [lg_sl, Value.category]) ?_
  intro p e s m args below meth c ls hx hb hml hr hlk hown ht hK hP hS hl
  have hl : lv_has ls 1 [(0, .ref h)] := hl
  refine lv_aload_n hx hb dX10_hasHouse_0 rfl (lv_at hl 0 rfl) ?_
  refine getF hx hb ht hown hK hP iTX10 0 3 rfl rfl (by decide) fl_RX10_31 rfl dX10_hasHouse_1 ?_
  refine getF hx hb ht hown hK hP iTX8 1 0 rfl rfl (by decide) fl_RX10_98 rfl dX10_hasHouse_4 ?_
  refine getF hx hb ht hown hK hP iTX3 2 0 rfl rfl (by decide) fl_RX10_111 rfl dX10_hasHouse_7 ?_
  refine lv_if_le (tgt := 17) hx hb dX10_hasHouse_10 (by decide) (fun c2 => ?_) (fun c1 => False.elim (by revert c1; decide))
  refine lv_iconst (v := 0) hx hb dX10_hasHouse_17 (by decide) ?_
  exact retPz hx hb hr hlk hS dX10_hasHouse_18 (rfl) (rfl)

set_option maxRecDepth 100000 in
set_option maxHeartbeats 4000000 in
theorem pX10_isRoom (l : Launch) (G : va_G) (cs : Nat → ClassId) (h : Nat) (q : Nat → Nat) (a1 : Int32) : PureI l yX10_isRoom cX10_isRoom 2 (some .boolean) 1 G (TY cs) [.ref h, .int a1] [(xc0 cs h q), (xc12 cs h q), (xc13 cs h q)] 0 := by
  refine mkP (Qc := QPi 0) (by decide) (by simp [lg_sl, Value.category]) ?_
  intro p e s m args below meth c ls hx hb hml hr hlk hown ht hK hP hS hl
  have hl : lv_has ls 2 [(0, .ref h), (1, .int a1)] := hl
  refine lv_aload_n hx hb dX10_isRoom_0 rfl (lv_at hl 0 rfl) ?_
  refine getF hx hb ht hown hK hP iTX10 0 3 rfl rfl (by decide) fl_RX10_31 rfl dX10_isRoom_1 ?_
  refine getF hx hb ht hown hK hP iTX8 1 0 rfl rfl (by decide) fl_RX10_98 rfl dX10_isRoom_4 ?_
  refine lv_iload_n hx hb dX10_isRoom_7 rfl (lv_at hl 1 rfl) ?_
  refine behI (runVP (As := [.int a1]) (rest := []) ⟨hx, hb, hml, hown, ht⟩ (pX3_hasRoom l G cs h q a1) okV_RX10_377 ⟨by decide, by decide⟩ hK hP [2] rfl 2 rfl rfl hl.1 rfl (Nat.le_of_ble_eq_true rfl) dX10_isRoom_8 ⟨by decide, by decide⟩) hP hS (fun _ h => h) (fun H locs hP hS => ?_)
  exact retPz hx hb hr hlk hS dX10_isRoom_11 (rfl) (rfl)

set_option maxRecDepth 100000 in
set_option maxHeartbeats 4000000 in
theorem pX10_isRoomOrOut (l : Launch) (G : va_G) (cs : Nat → ClassId) (h : Nat) (q : Nat → Nat) (a1 : Int32) : PureI l yX10_isRoomOrOut cX10_isRoomOrOut 2 (some .boolean) 1 G (TY cs) [.ref h, .int a1] [(xc0 cs h q), (xc12 cs h q), (xc13 cs h q)] 0 := by
  refine mkP (Qc := QPi 0) (by decide) (by simp [lg_sl, Value.category]) ?_
  intro p e s m args below meth c ls hx hb hml hr hlk hown ht hK hP hS hl
  have hl : lv_has ls 2 [(0, .ref h), (1, .int a1)] := hl
  refine lv_aload_n hx hb dX10_isRoomOrOut_0 rfl (lv_at hl 0 rfl) ?_
  refine behI (runVP (As := []) (rest := []) ⟨hx, hb, hml, hown, ht⟩ (pX10_hasHouse l G cs h q ) okV_RX10_152 ⟨by decide, by decide⟩ hK hP [0, 1, 2] rfl 0 rfl rfl hl.1 rfl (Nat.le_of_ble_eq_true rfl) dX10_isRoomOrOut_1 ⟨by decide, by decide⟩) hP hS (fun _ h => h) (fun H locs hP hS => ?_)
  refine lv_if_eq (tgt := 24) hx hb dX10_isRoomOrOut_4 (by decide) (fun c2 => ?_) (fun c1 => False.elim (by revert c1; decide))
  refine lv_iconst (v := 0) hx hb dX10_isRoomOrOut_24 (by decide) ?_
  exact retPz hx hb hr hlk hS dX10_isRoomOrOut_25 (rfl) (rfl)

set_option maxRecDepth 100000 in
set_option maxHeartbeats 4000000 in
theorem pX10_isMan (l : Launch) (G : va_G) (cs : Nat → ClassId) (h : Nat) (q : Nat → Nat) (a1 : Int32) : PureI l yX10_isMan cX10_isMan 2 (some .boolean) 0 G (TY cs) [.ref h, .int a1] [(xc0 cs h q), (xc12 cs h q), (xc13 cs h q)] 0 := by
  refine mkP (Qc := QPi 0) (by decide) (by simp [lg_sl, Value.category]) ?_
  intro p e s m args below meth c ls hx hb hml hr hlk hown ht hK hP hS hl
  have hl : lv_has ls 2 [(0, .ref h), (1, .int a1)] := hl
  refine lv_iload_n hx hb dX10_isMan_0 rfl (lv_at hl 1 rfl) ?_
  refine lv_if_lt (tgt := 22) hx hb dX10_isMan_1 (by decide) (fun c1 => ?_) (fun c1 => ?_)
  · refine lv_iconst (v := 0) hx hb dX10_isMan_22 (by decide) ?_
    exact retPz hx hb hr hlk hS dX10_isMan_23 (rfl) (rfl)
  · refine lv_iload_n hx hb dX10_isMan_4 rfl (lv_at hl 1 rfl) ?_
    refine lv_aload_n hx hb dX10_isMan_5 rfl (lv_at hl 0 rfl) ?_
    refine getF hx hb ht hown hK hP iTX10 0 3 rfl rfl (by decide) fl_RX10_31 rfl dX10_isMan_6 ?_
    refine getF hx hb ht hown hK hP iTX8 1 0 rfl rfl (by decide) fl_RX10_98 rfl dX10_isMan_9 ?_
    refine getF hx hb ht hown hK hP iTX3 2 6 rfl rfl (by decide) fl_RX10_283 rfl dX10_isMan_12 ?_
    refine lv_icmp_ge (tgt := 22) hx hb dX10_isMan_15 (by decide) (fun c3 => ?_) (fun c2 => False.elim (by have z0 := nltT c1; have z1 := nleT c2; have k0 : (0 : Int32).toInt = 0 := (by decide); omega))
    refine lv_iconst (v := 0) hx hb dX10_isMan_22 (by decide) ?_
    exact retPz hx hb hr hlk hS dX10_isMan_23 (rfl) (rfl)

set_option maxRecDepth 100000 in
set_option maxHeartbeats 4000000 in
theorem pX10_isSet (l : Launch) (G : va_G) (cs : Nat → ClassId) (h : Nat) (q : Nat → Nat) (a1 : Int32) : PureI l yX10_isSet cX10_isSet 2 (some .boolean) 0 G (TY cs) [.ref h, .int a1] [(xc0 cs h q), (xc12 cs h q), (xc13 cs h q)] 0 := by
  refine mkP (Qc := QPi 0) (by decide) (by simp [lg_sl, Value.category]) ?_
  intro p e s m args below meth c ls hx hb hml hr hlk hown ht hK hP hS hl
  have hl : lv_has ls 2 [(0, .ref h), (1, .int a1)] := hl
  refine lv_iload_n hx hb dX10_isSet_0 rfl (lv_at hl 1 rfl) ?_
  refine lv_iconst (v := 1) hx hb dX10_isSet_1 (by decide) ?_
  refine lv_icmp_lt (tgt := 25) hx hb dX10_isSet_2 (by decide) (fun c1 => ?_) (fun c1 => ?_)
  · refine lv_iconst (v := 0) hx hb dX10_isSet_25 (by decide) ?_
    exact retPz hx hb hr hlk hS dX10_isSet_26 (rfl) (rfl)
  · refine lv_iload_n hx hb dX10_isSet_5 rfl (lv_at hl 1 rfl) ?_
    refine lv_iconst (v := 1) hx hb dX10_isSet_6 (by decide) ?_
    refine lv_aload_n hx hb dX10_isSet_7 rfl (lv_at hl 0 rfl) ?_
    refine getF hx hb ht hown hK hP iTX10 0 3 rfl rfl (by decide) fl_RX10_31 rfl dX10_isSet_8 ?_
    refine getF hx hb ht hown hK hP iTX8 1 0 rfl rfl (by decide) fl_RX10_98 rfl dX10_isSet_11 ?_
    refine getF hx hb ht hown hK hP iTX3 2 6 rfl rfl (by decide) fl_RX10_283 rfl dX10_isSet_14 ?_
    refine lv_ishl hx hb dX10_isSet_17 ?_
    refine lv_topi (fun v2 ev2 => ?_)
    obtain rfl : v2 = 1 := ev2.trans (by decide)
    refine lv_icmp_ge (tgt := 25) hx hb dX10_isSet_18 (by decide) (fun c4 => ?_) (fun c3 => False.elim (by have z0 := nltT c1; have z1 := nleT c3; have k0 : (1 : Int32).toInt = 1 := (by decide); omega))
    refine lv_iconst (v := 0) hx hb dX10_isSet_25 (by decide) ?_
    exact retPz hx hb hr hlk hS dX10_isSet_26 (rfl) (rfl)

set_option maxRecDepth 100000 in
set_option maxHeartbeats 4000000 in
theorem pX10_isPartOfMillion (l : Launch) (G : va_G) (cs : Nat → ClassId) (h : Nat) (q : Nat → Nat) (a1 : Int32) : PureI l yX10_isPartOfMillion cX10_isPartOfMillion 2 (some .boolean) 0 G (TY cs) [.ref h, .int a1] [] (inG a1 0 1000000) := by
  refine mkP (Qc := QPi (inG a1 0 1000000)) (by decide) (by simp [lg_sl, Value.category]) ?_
  intro p e s m args below meth c ls hx hb hml hr hlk hown ht hK hP hS hl
  have hl : lv_has ls 2 [(0, .ref h), (1, .int a1)] := hl
  refine lv_iload_n hx hb dX10_isPartOfMillion_0 rfl (lv_at hl 1 rfl) ?_
  refine lv_if_lt (tgt := 14) hx hb dX10_isPartOfMillion_1 (by decide) (fun c1 => ?_) (fun c1 => ?_)
  · refine lv_iconst (v := 0) hx hb dX10_isPartOfMillion_14 (by decide) ?_
    exact retPz hx hb hr hlk hS dX10_isPartOfMillion_15 (rfl) ((inG_a c1).symm)
  · refine lv_iload_n hx hb dX10_isPartOfMillion_4 rfl (lv_at hl 1 rfl) ?_
    refine lv_ldc hx hb hown (ht _ ki_RX10_201) dX10_isPartOfMillion_5 ?_
    refine lv_icmp_gt (tgt := 14) hx hb dX10_isPartOfMillion_7 (by decide) (fun c2 => ?_) (fun c2 => ?_)
    · refine lv_iconst (v := 0) hx hb dX10_isPartOfMillion_14 (by decide) ?_
      exact retPz hx hb hr hlk hS dX10_isPartOfMillion_15 (rfl) ((inG_b c2).symm)
    · refine lv_iconst (v := 1) hx hb dX10_isPartOfMillion_10 (by decide) ?_
      refine lv_goto (tgt := 15) hx hb dX10_isPartOfMillion_11 (by decide) ?_
      exact retPz hx hb hr hlk hS dX10_isPartOfMillion_15 (rfl) ((inG_c c1 c2).symm)

set_option maxRecDepth 100000 in
set_option maxHeartbeats 4000000 in
theorem pX10_isSeed (l : Launch) (G : va_G) (cs : Nat → ClassId) (h : Nat) (q : Nat → Nat) (a1 : Int32) : PureI l yX10_isSeed cX10_isSeed 2 (some .boolean) 0 G (TY cs) [.ref h, .int a1] [] (inG a1 0 2000000000) := by
  refine mkP (Qc := QPi (inG a1 0 2000000000)) (by decide) (by simp [lg_sl, Value.category]) ?_
  intro p e s m args below meth c ls hx hb hml hr hlk hown ht hK hP hS hl
  have hl : lv_has ls 2 [(0, .ref h), (1, .int a1)] := hl
  refine lv_iload_n hx hb dX10_isSeed_0 rfl (lv_at hl 1 rfl) ?_
  refine lv_if_lt (tgt := 15) hx hb dX10_isSeed_1 (by decide) (fun c1 => ?_) (fun c1 => ?_)
  · refine lv_iconst (v := 0) hx hb dX10_isSeed_15 (by decide) ?_
    exact retPz hx hb hr hlk hS dX10_isSeed_16 (rfl) ((inG_a c1).symm)
  · refine lv_iload_n hx hb dX10_isSeed_4 rfl (lv_at hl 1 rfl) ?_
    refine lv_ldcw hx hb hown (ht _ ki_RX10_380) dX10_isSeed_5 ?_
    refine lv_icmp_gt (tgt := 15) hx hb dX10_isSeed_8 (by decide) (fun c2 => ?_) (fun c2 => ?_)
    · refine lv_iconst (v := 0) hx hb dX10_isSeed_15 (by decide) ?_
      exact retPz hx hb hr hlk hS dX10_isSeed_16 (rfl) ((inG_b c2).symm)
    · refine lv_iconst (v := 1) hx hb dX10_isSeed_11 (by decide) ?_
      refine lv_goto (tgt := 16) hx hb dX10_isSeed_12 (by decide) ?_
      exact retPz hx hb hr hlk hS dX10_isSeed_16 (rfl) ((inG_c c1 c2).symm)

set_option maxRecDepth 100000 in
set_option maxHeartbeats 4000000 in
theorem pX10_isSlot (l : Launch) (G : va_G) (cs : Nat → ClassId) (h : Nat) (q : Nat → Nat) (a1 : Int32) : PureI l yX10_isSlot cX10_isSlot 2 (some .boolean) 0 G (TY cs) [.ref h, .int a1] [] (spk 4 a1 1 0) := by
  refine mkP (Qc := QPi (spk 4 a1 1 0)) (by decide) (by simp [lg_sl, Value.category]) ?_
  intro p e s m args below meth c ls hx hb hml hr hlk hown ht hK hP hS hl
  have hl : lv_has ls 2 [(0, .ref h), (1, .int a1)] := hl
  refine lv_iload_n hx hb dX10_isSlot_0 rfl (lv_at hl 1 rfl) ?_
  refine lv_if_lt (tgt := 13) hx hb dX10_isSlot_1 (by decide) (fun c1 => ?_) (fun c1 => ?_)
  · refine lv_iconst (v := 0) hx hb dX10_isSlot_13 (by decide) ?_
    exact retPz hx hb hr hlk hS dX10_isSlot_14 (rfl) ((spk_lo c1).symm)
  · refine lv_iload_n hx hb dX10_isSlot_4 rfl (lv_at hl 1 rfl) ?_
    refine lv_iconst (v := 4) hx hb dX10_isSlot_5 (by decide) ?_
    refine lv_icmp_ge (tgt := 13) hx hb dX10_isSlot_6 (by decide) (fun c2 => ?_) (fun c2 => ?_)
    · refine lv_iconst (v := 0) hx hb dX10_isSlot_13 (by decide) ?_
      exact retPz hx hb hr hlk hS dX10_isSlot_14 (rfl) ((spk_hi (by decide) c2).symm)
    · refine lv_iconst (v := 1) hx hb dX10_isSlot_9 (by decide) ?_
      refine lv_goto (tgt := 14) hx hb dX10_isSlot_10 (by decide) ?_
      exact retPz hx hb hr hlk hS dX10_isSlot_14 (rfl) ((by unfold spk; rw [if_neg c1, if_neg c2]))

set_option maxRecDepth 100000 in
set_option maxHeartbeats 4000000 in
theorem pX10_askRow (l : Launch) (G : va_G) (cs : Nat → ClassId) (h : Nat) (q : Nat → Nat) (a1 : Int32) (a2 : Int32) (a3 : Int32) : PureI l yX10_askRow cX10_askRow 4 (some .int) 1 G (TY cs) [.ref h, .int a1, .int a2, .int a3] [(xc0 cs h q), (xc12 cs h q), (xc13 cs h q)] (-2) := by
  refine mkP (Qc := QPi (-2)) (by decide) (by simp [lg_sl, Value.category]) ?_
  intro p e s m args below meth c ls hx hb hml hr hlk hown ht hK hP hS hl
  have hl : lv_has ls 4 [(0, .ref h), (1, .int a1), (2, .int a2), (3, .int a3)] := hl
  refine lv_aload_n hx hb dX10_askRow_0 rfl (lv_at hl 0 rfl) ?_
  refine lv_iload_n hx hb dX10_askRow_1 rfl (lv_at hl 1 rfl) ?_
  refine behI (runVP (As := [.int a1]) (rest := []) ⟨hx, hb, hml, hown, ht⟩ (pX10_isSlot l G cs h q a1) okV_RX10_348 ⟨by decide, by decide⟩ hK hP [] rfl 0 rfl rfl hl.1 rfl (Nat.le_of_ble_eq_true rfl) dX10_askRow_2 ⟨by decide, by decide⟩) hP hS (fun _ h => h) (fun H locs hP hS => ?_)
  refine lv_if_eq (tgt := 19) hx hb dX10_askRow_5 (by decide) (fun c1 => ?_) (fun c1 => ?_)
  · refine lv_bipush (v := (-2)) hx hb dX10_askRow_19 (by decide) ?_
    exact retPi hx hb hr hlk hS dX10_askRow_21 (rfl)
  · refine lv_aload_n hx hb dX10_askRow_8 rfl (lv_at hl 0 rfl) ?_
    refine behI (runVP (As := []) (rest := []) ⟨hx, hb, hml, hown, ht⟩ (pX10_hasHouse l G cs h q ) okV_RX10_152 ⟨by decide, by decide⟩ hK hP [0, 1, 2] rfl 0 rfl rfl hl.1 rfl (Nat.le_of_ble_eq_true rfl) dX10_askRow_9 ⟨by decide, by decide⟩) hP hS (fun _ h => h) (fun H locs hP hS => ?_)
    refine lv_if_eq (tgt := 19) hx hb dX10_askRow_12 (by decide) (fun c3 => ?_) (fun c2 => False.elim (by revert c2; decide))
    refine lv_bipush (v := (-2)) hx hb dX10_askRow_19 (by decide) ?_
    exact retPi hx hb hr hlk hS dX10_askRow_21 (rfl)

set_option maxRecDepth 100000 in
set_option maxHeartbeats 4000000 in
theorem pX10_askRound (l : Launch) (G : va_G) (cs : Nat → ClassId) (h : Nat) (q : Nat → Nat) (a1 : Int32) (a2 : Int32) : PureI l yX10_askRound cX10_askRound 3 (some .int) 2 G (TY cs) [.ref h, .int a1, .int a2] [(xc0 cs h q), (xc12 cs h q), (xc13 cs h q)] (-2) := by
  refine mkP (Qc := QPi (-2)) (by decide) (by simp [lg_sl, Value.category]) ?_
  intro p e s m args below meth c ls hx hb hml hr hlk hown ht hK hP hS hl
  have hl : lv_has ls 3 [(0, .ref h), (1, .int a1), (2, .int a2)] := hl
  refine lv_aload_n hx hb dX10_askRound_0 rfl (lv_at hl 0 rfl) ?_
  refine lv_iload_n hx hb dX10_askRound_1 rfl (lv_at hl 1 rfl) ?_
  refine lv_iload_n hx hb dX10_askRound_2 rfl (lv_at hl 2 rfl) ?_
  refine lv_iconst (v := (-1)) hx hb dX10_askRound_3 (by decide) ?_
  refine behI (runVP (As := [.int a1, .int a2, .int (-1)]) (rest := []) ⟨hx, hb, hml, hown, ht⟩ (pX10_askRow l G cs h q a1 a2 (-1)) okV_RX10_381 ⟨by decide, by decide⟩ hK hP [0, 1, 2] rfl 0 rfl rfl hl.1 rfl (Nat.le_of_ble_eq_true rfl) dX10_askRound_4 ⟨by decide, by decide⟩) hP hS (fun _ h => h) (fun H locs hP hS => ?_)
  exact retPi hx hb hr hlk hS dX10_askRound_7 (rfl)

set_option maxRecDepth 100000 in
set_option maxHeartbeats 4000000 in
theorem pX10_askHabits (l : Launch) (G : va_G) (cs : Nat → ClassId) (h : Nat) (q : Nat → Nat) (a1 : Int32) (a2 : Int32) : PureI l yX10_askHabits cX10_askHabits 3 (some .int) 2 G (TY cs) [.ref h, .int a1, .int a2] [(xc0 cs h q), (xc12 cs h q), (xc13 cs h q)] (-2) := by
  refine mkP (Qc := QPi (-2)) (by decide) (by simp [lg_sl, Value.category]) ?_
  intro p e s m args below meth c ls hx hb hml hr hlk hown ht hK hP hS hl
  have hl : lv_has ls 3 [(0, .ref h), (1, .int a1), (2, .int a2)] := hl
  refine lv_aload_n hx hb dX10_askHabits_0 rfl (lv_at hl 0 rfl) ?_
  refine lv_iload_n hx hb dX10_askHabits_1 rfl (lv_at hl 1 rfl) ?_
  refine lv_iload_n hx hb dX10_askHabits_2 rfl (lv_at hl 2 rfl) ?_
  refine lv_iconst (v := 0) hx hb dX10_askHabits_3 (by decide) ?_
  refine behI (runVP (As := [.int a1, .int a2, .int 0]) (rest := []) ⟨hx, hb, hml, hown, ht⟩ (pX10_askRow l G cs h q a1 a2 0) okV_RX10_381 ⟨by decide, by decide⟩ hK hP [0, 1, 2] rfl 0 rfl rfl hl.1 rfl (Nat.le_of_ble_eq_true rfl) dX10_askHabits_4 ⟨by decide, by decide⟩) hP hS (fun _ h => h) (fun H locs hP hS => ?_)
  exact retPi hx hb hr hlk hS dX10_askHabits_7 (rfl)

set_option maxRecDepth 100000 in
set_option maxHeartbeats 4000000 in
theorem pX10_peopleOf (l : Launch) (G : va_G) (cs : Nat → ClassId) (h : Nat) (q : Nat → Nat) (a1 : Int32) : PureI l yX10_peopleOf cX10_peopleOf 4 (some .int) 0 G (TY cs) [.ref h, .int a1] [(xc0 cs h q), (xc12 cs h q), (xc13 cs h q)] 0 := by
  refine mkP (Qc := QPi 0) (by decide) (by simp [lg_sl, Value.category]) ?_
  intro p e s m args below meth c ls hx hb hml hr hlk hown ht hK hP hS hl
  have hl : lv_has ls 4 [(0, .ref h), (1, .int a1)] := hl
  refine lv_iconst (v := 0) hx hb dX10_peopleOf_0 (by decide) ?_
  refine lv_istore_n (lv' := [(2, .int 0), (0, .ref h), (1, .int a1)]) hx hb dX10_peopleOf_1 rfl hl (by decide) rfl (fun ls hl => ?_)
  refine lv_iconst (v := 0) hx hb dX10_peopleOf_2 (by decide) ?_
  refine lv_istore_n (lv' := [(3, .int 0), (2, .int 0), (0, .ref h), (1, .int a1)]) hx hb dX10_peopleOf_3 rfl hl (by decide) rfl (fun ls hl => ?_)
  refine lv_iload_n hx hb dX10_peopleOf_4 rfl (lv_at hl 0 rfl) ?_
  refine lv_aload_n hx hb dX10_peopleOf_5 rfl (lv_at hl 2 rfl) ?_
  refine getF hx hb ht hown hK hP iTX10 0 3 rfl rfl (by decide) fl_RX10_31 rfl dX10_peopleOf_6 ?_
  refine getF hx hb ht hown hK hP iTX8 1 0 rfl rfl (by decide) fl_RX10_98 rfl dX10_peopleOf_9 ?_
  refine getF hx hb ht hown hK hP iTX3 2 5 rfl rfl (by decide) fl_RX10_159 rfl dX10_peopleOf_12 ?_
  refine lv_icmp_ge (tgt := 47) hx hb dX10_peopleOf_15 (by decide) (fun c2 => ?_) (fun c1 => False.elim (by revert c1; decide))
  refine lv_iload_n hx hb dX10_peopleOf_47 rfl (lv_at hl 1 rfl) ?_
  exact retPi hx hb hr hlk hS dX10_peopleOf_48 (rfl)

set_option maxRecDepth 100000 in
set_option maxHeartbeats 4000000 in
theorem pX10_countRows (l : Launch) (G : va_G) (cs : Nat → ClassId) (h : Nat) (q : Nat → Nat)  : PureI l yX10_countRows cX10_countRows 3 (some .int) 0 G (TY cs) [.ref h] [(xc0 cs h q), (xc53 cs h q), (xc54 cs h q), (xc56 cs h q), (xc58 cs h q), (xc60 cs h q)] 0 := by
  refine mkP (Qc := QPi 0) (by decide) (by simp [lg_sl, Value.category]) ?_
  intro p e s m args below meth c ls hx hb hml hr hlk hown ht hK hP hS hl
  have hl : lv_has ls 3 [(0, .ref h)] := hl
  refine lv_iconst (v := 0) hx hb dX10_countRows_0 (by decide) ?_
  refine lv_istore_n (lv' := [(1, .int 0), (0, .ref h)]) hx hb dX10_countRows_1 rfl hl (by decide) rfl (fun ls hl => ?_)
  refine lv_iconst (v := 0) hx hb dX10_countRows_2 (by decide) ?_
  refine lv_istore_n (lv' := [(2, .int 0), (1, .int 0), (0, .ref h)]) hx hb dX10_countRows_3 rfl hl (by decide) rfl (fun ls hl => ?_)
  refine lv_iload_n hx hb dX10_countRows_4 rfl (lv_at hl 0 rfl) ?_
  refine lv_iconst (v := 4) hx hb dX10_countRows_5 (by decide) ?_
  refine lv_icmp_ge (tgt := 30) hx hb dX10_countRows_6 (by decide) (fun c1 => False.elim (by revert c1; decide)) (fun c2 => ?_)
  refine lv_aload_n hx hb dX10_countRows_9 rfl (lv_at hl 2 rfl) ?_
  refine getF hx hb ht hown hK hP iTX10 0 5 rfl rfl (by decide) fl_RX10_41 rfl dX10_countRows_10 ?_
  refine lv_iload_n hx hb dX10_countRows_13 rfl (lv_at hl 0 rfl) ?_
  refine va_aldq hx hb hK.1 hP 1 5 rfl rfl (show ¬ (_ ∨ _) by decide) dX10_countRows_14 ?_
  refine W.eq (g2 := F0 m 15 ls [.ref (q 54)]) rfl ?_
  refine getF hx hb ht hown hK hP iTX7 2 1 rfl rfl (by decide) fl_RX10_354 rfl dX10_countRows_15 ?_
  refine lv_if_eq (tgt := 24) hx hb dX10_countRows_18 (by decide) (fun c4 => ?_) (fun c3 => False.elim (by revert c3; decide))
  refine lv_iinc (v := 1) (lv' := [(2, .int 1), (1, .int 0), (0, .ref h)]) hx hb dX10_countRows_24 hl (k := 0) rfl (by decide) (by decide) rfl (fun ls hl => ?_)
  refine lv_goto (tgt := 4) hx hb dX10_countRows_27 (by decide) ?_
  refine lv_iload_n hx hb dX10_countRows_4 rfl (lv_at hl 0 rfl) ?_
  refine lv_iconst (v := 4) hx hb dX10_countRows_5 (by decide) ?_
  refine lv_icmp_ge (tgt := 30) hx hb dX10_countRows_6 (by decide) (fun c5 => False.elim (by revert c5; decide)) (fun c6 => ?_)
  refine lv_aload_n hx hb dX10_countRows_9 rfl (lv_at hl 2 rfl) ?_
  refine getF hx hb ht hown hK hP iTX10 0 5 rfl rfl (by decide) fl_RX10_41 rfl dX10_countRows_10 ?_
  refine lv_iload_n hx hb dX10_countRows_13 rfl (lv_at hl 0 rfl) ?_
  refine va_aldq hx hb hK.1 hP 1 5 rfl rfl (show ¬ (_ ∨ _) by decide) dX10_countRows_14 ?_
  refine W.eq (g2 := F0 m 15 ls [.ref (q 56)]) rfl ?_
  refine getF hx hb ht hown hK hP iTX7 3 1 rfl rfl (by decide) fl_RX10_354 rfl dX10_countRows_15 ?_
  refine lv_if_eq (tgt := 24) hx hb dX10_countRows_18 (by decide) (fun c8 => ?_) (fun c7 => False.elim (by revert c7; decide))
  refine lv_iinc (v := 2) (lv' := [(2, .int 2), (1, .int 0), (0, .ref h)]) hx hb dX10_countRows_24 hl (k := 0) rfl (by decide) (by decide) rfl (fun ls hl => ?_)
  refine lv_goto (tgt := 4) hx hb dX10_countRows_27 (by decide) ?_
  refine lv_iload_n hx hb dX10_countRows_4 rfl (lv_at hl 0 rfl) ?_
  refine lv_iconst (v := 4) hx hb dX10_countRows_5 (by decide) ?_
  refine lv_icmp_ge (tgt := 30) hx hb dX10_countRows_6 (by decide) (fun c9 => False.elim (by revert c9; decide)) (fun c10 => ?_)
  refine lv_aload_n hx hb dX10_countRows_9 rfl (lv_at hl 2 rfl) ?_
  refine getF hx hb ht hown hK hP iTX10 0 5 rfl rfl (by decide) fl_RX10_41 rfl dX10_countRows_10 ?_
  refine lv_iload_n hx hb dX10_countRows_13 rfl (lv_at hl 0 rfl) ?_
  refine va_aldq hx hb hK.1 hP 1 5 rfl rfl (show ¬ (_ ∨ _) by decide) dX10_countRows_14 ?_
  refine W.eq (g2 := F0 m 15 ls [.ref (q 58)]) rfl ?_
  refine getF hx hb ht hown hK hP iTX7 4 1 rfl rfl (by decide) fl_RX10_354 rfl dX10_countRows_15 ?_
  refine lv_if_eq (tgt := 24) hx hb dX10_countRows_18 (by decide) (fun c12 => ?_) (fun c11 => False.elim (by revert c11; decide))
  refine lv_iinc (v := 3) (lv' := [(2, .int 3), (1, .int 0), (0, .ref h)]) hx hb dX10_countRows_24 hl (k := 0) rfl (by decide) (by decide) rfl (fun ls hl => ?_)
  refine lv_goto (tgt := 4) hx hb dX10_countRows_27 (by decide) ?_
  refine lv_iload_n hx hb dX10_countRows_4 rfl (lv_at hl 0 rfl) ?_
  refine lv_iconst (v := 4) hx hb dX10_countRows_5 (by decide) ?_
  refine lv_icmp_ge (tgt := 30) hx hb dX10_countRows_6 (by decide) (fun c13 => False.elim (by revert c13; decide)) (fun c14 => ?_)
  refine lv_aload_n hx hb dX10_countRows_9 rfl (lv_at hl 2 rfl) ?_
  refine getF hx hb ht hown hK hP iTX10 0 5 rfl rfl (by decide) fl_RX10_41 rfl dX10_countRows_10 ?_
  refine lv_iload_n hx hb dX10_countRows_13 rfl (lv_at hl 0 rfl) ?_
  refine va_aldq hx hb hK.1 hP 1 5 rfl rfl (show ¬ (_ ∨ _) by decide) dX10_countRows_14 ?_
  refine W.eq (g2 := F0 m 15 ls [.ref (q 60)]) rfl ?_
  refine getF hx hb ht hown hK hP iTX7 5 1 rfl rfl (by decide) fl_RX10_354 rfl dX10_countRows_15 ?_
  refine lv_if_eq (tgt := 24) hx hb dX10_countRows_18 (by decide) (fun c16 => ?_) (fun c15 => False.elim (by revert c15; decide))
  refine lv_iinc (v := 4) (lv' := [(2, .int 4), (1, .int 0), (0, .ref h)]) hx hb dX10_countRows_24 hl (k := 0) rfl (by decide) (by decide) rfl (fun ls hl => ?_)
  refine lv_goto (tgt := 4) hx hb dX10_countRows_27 (by decide) ?_
  refine lv_iload_n hx hb dX10_countRows_4 rfl (lv_at hl 0 rfl) ?_
  refine lv_iconst (v := 4) hx hb dX10_countRows_5 (by decide) ?_
  refine lv_icmp_ge (tgt := 30) hx hb dX10_countRows_6 (by decide) (fun c18 => ?_) (fun c17 => False.elim (by revert c17; decide))
  refine lv_iload_n hx hb dX10_countRows_30 rfl (lv_at hl 1 rfl) ?_
  exact retPi hx hb hr hlk hS dX10_countRows_31 (rfl)

set_option maxRecDepth 100000 in
set_option maxHeartbeats 4000000 in
theorem pX10_room (l : Launch) (G : va_G) (cs : Nat → ClassId) (h : Nat) (q : Nat → Nat) (a1 : Int32) (a2 : Int32) : PureI l yX10_room cX10_room 3 (some .int) 2 G (TY cs) [.ref h, .int a1, .int a2] [(xc0 cs h q), (xc12 cs h q), (xc13 cs h q)] (-2) := by
  refine mkP (Qc := QPi (-2)) (by decide) (by simp [lg_sl, Value.category]) ?_
  intro p e s m args below meth c ls hx hb hml hr hlk hown ht hK hP hS hl
  have hl : lv_has ls 3 [(0, .ref h), (1, .int a1), (2, .int a2)] := hl
  refine lv_aload_n hx hb dX10_room_0 rfl (lv_at hl 0 rfl) ?_
  refine lv_iload_n hx hb dX10_room_1 rfl (lv_at hl 1 rfl) ?_
  refine behI (runVP (As := [.int a1]) (rest := []) ⟨hx, hb, hml, hown, ht⟩ (pX10_isRoom l G cs h q a1) okV_RX10_120 ⟨by decide, by decide⟩ hK hP [0, 1, 2] rfl 0 rfl rfl hl.1 rfl (Nat.le_of_ble_eq_true rfl) dX10_room_2 ⟨by decide, by decide⟩) hP hS (fun _ h => h) (fun H locs hP hS => ?_)
  refine lv_if_eq (tgt := 17) hx hb dX10_room_5 (by decide) (fun c2 => ?_) (fun c1 => False.elim (by revert c1; decide))
  refine lv_bipush (v := (-2)) hx hb dX10_room_17 (by decide) ?_
  exact retPi hx hb hr hlk hS dX10_room_19 (rfl)

set_option maxRecDepth 100000 in
set_option maxHeartbeats 4000000 in
theorem pX10_man (l : Launch) (G : va_G) (cs : Nat → ClassId) (h : Nat) (q : Nat → Nat) (a1 : Int32) (a2 : Int32) : PureI l yX10_man cX10_man 3 (some .int) 1 G (TY cs) [.ref h, .int a1, .int a2] [(xc0 cs h q), (xc12 cs h q), (xc13 cs h q)] (-2) := by
  refine mkP (Qc := QPi (-2)) (by decide) (by simp [lg_sl, Value.category]) ?_
  intro p e s m args below meth c ls hx hb hml hr hlk hown ht hK hP hS hl
  have hl : lv_has ls 3 [(0, .ref h), (1, .int a1), (2, .int a2)] := hl
  refine lv_aload_n hx hb dX10_man_0 rfl (lv_at hl 0 rfl) ?_
  refine lv_iload_n hx hb dX10_man_1 rfl (lv_at hl 1 rfl) ?_
  refine behI (runVP (As := [.int a1]) (rest := []) ⟨hx, hb, hml, hown, ht⟩ (pX10_isMan l G cs h q a1) okV_RX10_128 ⟨by decide, by decide⟩ hK hP [0, 1, 2] rfl 0 rfl rfl hl.1 rfl (Nat.le_of_ble_eq_true rfl) dX10_man_2 ⟨by decide, by decide⟩) hP hS (fun _ h => h) (fun H locs hP hS => ?_)
  refine lv_if_eq (tgt := 17) hx hb dX10_man_5 (by decide) (fun c2 => ?_) (fun c1 => False.elim (by revert c1; decide))
  refine lv_bipush (v := (-2)) hx hb dX10_man_17 (by decide) ?_
  exact retPi hx hb hr hlk hS dX10_man_19 (rfl)

set_option maxRecDepth 100000 in
set_option maxHeartbeats 4000000 in
theorem pX10_slate (l : Launch) (G : va_G) (cs : Nat → ClassId) (h : Nat) (q : Nat → Nat) (a1 : Int32) (a2 : Int32) : PureI l yX10_slate cX10_slate 3 (some .int) 1 G (TY cs) [.ref h, .int a1, .int a2] [(xc0 cs h q), (xc12 cs h q), (xc13 cs h q)] (-2) := by
  refine mkP (Qc := QPi (-2)) (by decide) (by simp [lg_sl, Value.category]) ?_
  intro p e s m args below meth c ls hx hb hml hr hlk hown ht hK hP hS hl
  have hl : lv_has ls 3 [(0, .ref h), (1, .int a1), (2, .int a2)] := hl
  refine lv_aload_n hx hb dX10_slate_0 rfl (lv_at hl 0 rfl) ?_
  refine lv_iload_n hx hb dX10_slate_1 rfl (lv_at hl 1 rfl) ?_
  refine behI (runVP (As := [.int a1]) (rest := []) ⟨hx, hb, hml, hown, ht⟩ (pX10_isMan l G cs h q a1) okV_RX10_128 ⟨by decide, by decide⟩ hK hP [0, 1, 2] rfl 0 rfl rfl hl.1 rfl (Nat.le_of_ble_eq_true rfl) dX10_slate_2 ⟨by decide, by decide⟩) hP hS (fun _ h => h) (fun H locs hP hS => ?_)
  refine lv_if_eq (tgt := 16) hx hb dX10_slate_5 (by decide) (fun c2 => ?_) (fun c1 => False.elim (by revert c1; decide))
  refine lv_bipush (v := (-2)) hx hb dX10_slate_16 (by decide) ?_
  exact retPi hx hb hr hlk hS dX10_slate_18 (rfl)

set_option maxRecDepth 100000 in
set_option maxHeartbeats 4000000 in
theorem pX10_hears (l : Launch) (G : va_G) (cs : Nat → ClassId) (h : Nat) (q : Nat → Nat) (a1 : Int32) (a2 : Int32) : PureI l yX10_hears cX10_hears 3 (some .int) 2 G (TY cs) [.ref h, .int a1, .int a2] [(xc0 cs h q), (xc12 cs h q), (xc13 cs h q)] (-2) := by
  refine mkP (Qc := QPi (-2)) (by decide) (by simp [lg_sl, Value.category]) ?_
  intro p e s m args below meth c ls hx hb hml hr hlk hown ht hK hP hS hl
  have hl : lv_has ls 3 [(0, .ref h), (1, .int a1), (2, .int a2)] := hl
  refine lv_aload_n hx hb dX10_hears_0 rfl (lv_at hl 0 rfl) ?_
  refine lv_iload_n hx hb dX10_hears_1 rfl (lv_at hl 1 rfl) ?_
  refine behI (runVP (As := [.int a1]) (rest := []) ⟨hx, hb, hml, hown, ht⟩ (pX10_isRoom l G cs h q a1) okV_RX10_120 ⟨by decide, by decide⟩ hK hP [0, 1, 2] rfl 0 rfl rfl hl.1 rfl (Nat.le_of_ble_eq_true rfl) dX10_hears_2 ⟨by decide, by decide⟩) hP hS (fun _ h => h) (fun H locs hP hS => ?_)
  refine lv_if_eq (tgt := 18) hx hb dX10_hears_5 (by decide) (fun c2 => ?_) (fun c1 => False.elim (by revert c1; decide))
  refine lv_bipush (v := (-2)) hx hb dX10_hears_18 (by decide) ?_
  exact retPi hx hb hr hlk hS dX10_hears_20 (rfl)
end
section
set_option maxRecDepth 100000 in
set_option maxHeartbeats 4000000 in
theorem pX10_parts (l : Launch) (G : va_G) (cs : Nat → ClassId) (h : Nat) (q : Nat → Nat) (a1 : Int32) : PureI l yX10_parts cX10_parts 2 (some .int) 2 G (TY cs) [.ref h, .int a1] [(xc0 cs h q), (xc12 cs h q), (xc13 cs h q)] (-2) := by
  refine mkP (Qc := QPi (-2)) (by decide) (by simp [lg_sl, Value.category]) ?_
  intro p e s m args below meth c ls hx hb hml hr hlk hown ht hK hP hS hl
  have hl : lv_has ls 2 [(0, .ref h), (1, .int a1)] := hl
  refine lv_aload_n hx hb dX10_parts_0 rfl (lv_at hl 0 rfl) ?_
  refine lv_iload_n hx hb dX10_parts_1 rfl (lv_at hl 1 rfl) ?_
  refine behI (runVP (As := [.int a1]) (rest := []) ⟨hx, hb, hml, hown, ht⟩ (pX10_isRoomOrOut l G cs h q a1) okV_RX10_145 ⟨by decide, by decide⟩ hK hP [0, 1, 2] rfl 0 rfl rfl hl.1 rfl (Nat.le_of_ble_eq_true rfl) dX10_parts_2 ⟨by decide, by decide⟩) hP hS (fun _ h => h) (fun H locs hP hS => ?_)
  refine lv_if_eq (tgt := 19) hx hb dX10_parts_5 (by decide) (fun c2 => ?_) (fun c1 => False.elim (by revert c1; decide))
  refine lv_bipush (v := (-2)) hx hb dX10_parts_19 (by decide) ?_
  exact retPi hx hb hr hlk hS dX10_parts_21 (rfl)

set_option maxRecDepth 100000 in
set_option maxHeartbeats 4000000 in
theorem pX10_found (l : Launch) (G : va_G) (cs : Nat → ClassId) (h : Nat) (q : Nat → Nat)  : PureI l yX10_found cX10_found 1 (some .int) 1 G (TY cs) [.ref h] [(xc0 cs h q), (xc12 cs h q), (xc13 cs h q)] (-2) := by
  refine mkP (Qc := QPi (-2)) (by decide) (by simp [lg_sl, Value.category]) ?_
  intro p e s m args below meth c ls hx hb hml hr hlk hown ht hK hP hS hl
  have hl : lv_has ls 1 [(0, .ref h)] := hl
  refine lv_aload_n hx hb dX10_found_0 rfl (lv_at hl 0 rfl) ?_
  refine behI (runVP (As := []) (rest := []) ⟨hx, hb, hml, hown, ht⟩ (pX10_hasHouse l G cs h q ) okV_RX10_152 ⟨by decide, by decide⟩ hK hP [0, 1, 2] rfl 0 rfl rfl hl.1 rfl (Nat.le_of_ble_eq_true rfl) dX10_found_1 ⟨by decide, by decide⟩) hP hS (fun _ h => h) (fun H locs hP hS => ?_)
  refine lv_if_eq (tgt := 17) hx hb dX10_found_4 (by decide) (fun c2 => ?_) (fun c1 => False.elim (by revert c1; decide))
  refine lv_bipush (v := (-2)) hx hb dX10_found_17 (by decide) ?_
  exact retPi hx hb hr hlk hS dX10_found_19 (rfl)

set_option maxRecDepth 100000 in
set_option maxHeartbeats 4000000 in
theorem pX10_likely (l : Launch) (G : va_G) (cs : Nat → ClassId) (h : Nat) (q : Nat → Nat)  : PureI l yX10_likely cX10_likely 3 (some .int) 1 G (TY cs) [.ref h] [(xc0 cs h q), (xc12 cs h q), (xc13 cs h q)] (-2) := by
  refine mkP (Qc := QPi (-2)) (by decide) (by simp [lg_sl, Value.category]) ?_
  intro p e s m args below meth c ls hx hb hml hr hlk hown ht hK hP hS hl
  have hl : lv_has ls 3 [(0, .ref h)] := hl
  refine lv_aload_n hx hb dX10_likely_0 rfl (lv_at hl 0 rfl) ?_
  refine behI (runVP (As := []) (rest := []) ⟨hx, hb, hml, hown, ht⟩ (pX10_hasHouse l G cs h q ) okV_RX10_152 ⟨by decide, by decide⟩ hK hP [0, 1, 2] rfl 0 rfl rfl hl.1 rfl (Nat.le_of_ble_eq_true rfl) dX10_likely_1 ⟨by decide, by decide⟩) hP hS (fun _ h => h) (fun H locs hP hS => ?_)
  refine lv_if_ne (tgt := 10) hx hb dX10_likely_4 (by decide) (fun c1 => False.elim (by revert c1; decide)) (fun c2 => ?_)
  refine lv_bipush (v := (-2)) hx hb dX10_likely_7 (by decide) ?_
  exact retPi hx hb hr hlk hS dX10_likely_9 (rfl)

set_option maxRecDepth 100000 in
set_option maxHeartbeats 4000000 in
theorem pX10_here (l : Launch) (G : va_G) (cs : Nat → ClassId) (h : Nat) (q : Nat → Nat)  : PureI l yX10_here cX10_here 1 (some .int) 1 G (TY cs) [.ref h] [(xc0 cs h q), (xc12 cs h q), (xc13 cs h q)] (-2) := by
  refine mkP (Qc := QPi (-2)) (by decide) (by simp [lg_sl, Value.category]) ?_
  intro p e s m args below meth c ls hx hb hml hr hlk hown ht hK hP hS hl
  have hl : lv_has ls 1 [(0, .ref h)] := hl
  refine lv_aload_n hx hb dX10_here_0 rfl (lv_at hl 0 rfl) ?_
  refine behI (runVP (As := []) (rest := []) ⟨hx, hb, hml, hown, ht⟩ (pX10_hasHouse l G cs h q ) okV_RX10_152 ⟨by decide, by decide⟩ hK hP [0, 1, 2] rfl 0 rfl rfl hl.1 rfl (Nat.le_of_ble_eq_true rfl) dX10_here_1 ⟨by decide, by decide⟩) hP hS (fun _ h => h) (fun H locs hP hS => ?_)
  refine lv_if_eq (tgt := 17) hx hb dX10_here_4 (by decide) (fun c2 => ?_) (fun c1 => False.elim (by revert c1; decide))
  refine lv_bipush (v := (-2)) hx hb dX10_here_17 (by decide) ?_
  exact retPi hx hb hr hlk hS dX10_here_19 (rfl)

set_option maxRecDepth 100000 in
set_option maxHeartbeats 4000000 in
theorem pX10_chance (l : Launch) (G : va_G) (cs : Nat → ClassId) (h : Nat) (q : Nat → Nat) (a1 : Int32) : PureI l yX10_chance cX10_chance 2 (some .int) 2 G (TY cs) [.ref h, .int a1] [(xc0 cs h q), (xc12 cs h q), (xc13 cs h q)] (-2) := by
  refine mkP (Qc := QPi (-2)) (by decide) (by simp [lg_sl, Value.category]) ?_
  intro p e s m args below meth c ls hx hb hml hr hlk hown ht hK hP hS hl
  have hl : lv_has ls 2 [(0, .ref h), (1, .int a1)] := hl
  refine lv_aload_n hx hb dX10_chance_0 rfl (lv_at hl 0 rfl) ?_
  refine lv_iload_n hx hb dX10_chance_1 rfl (lv_at hl 1 rfl) ?_
  refine behI (runVP (As := [.int a1]) (rest := []) ⟨hx, hb, hml, hown, ht⟩ (pX10_isRoomOrOut l G cs h q a1) okV_RX10_145 ⟨by decide, by decide⟩ hK hP [0, 1, 2] rfl 0 rfl rfl hl.1 rfl (Nat.le_of_ble_eq_true rfl) dX10_chance_2 ⟨by decide, by decide⟩) hP hS (fun _ h => h) (fun H locs hP hS => ?_)
  refine lv_if_eq (tgt := 26) hx hb dX10_chance_5 (by decide) (fun c2 => ?_) (fun c1 => False.elim (by revert c1; decide))
  refine lv_bipush (v := (-2)) hx hb dX10_chance_26 (by decide) ?_
  exact retPi hx hb hr hlk hS dX10_chance_28 (rfl)

set_option maxRecDepth 100000 in
set_option maxHeartbeats 4000000 in
theorem pX10_call (l : Launch) (G : va_G) (cs : Nat → ClassId) (h : Nat) (q : Nat → Nat) (a1 : Int32) : PureI l yX10_call cX10_call 2 (some .int) 2 G (TY cs) [.ref h, .int a1] [(xc0 cs h q), (xc12 cs h q), (xc13 cs h q)] (-2) := by
  refine mkP (Qc := QPi (-2)) (by decide) (by simp [lg_sl, Value.category]) ?_
  intro p e s m args below meth c ls hx hb hml hr hlk hown ht hK hP hS hl
  have hl : lv_has ls 2 [(0, .ref h), (1, .int a1)] := hl
  refine lv_aload_n hx hb dX10_call_0 rfl (lv_at hl 0 rfl) ?_
  refine lv_iload_n hx hb dX10_call_1 rfl (lv_at hl 1 rfl) ?_
  refine behI (runVP (As := [.int a1]) (rest := []) ⟨hx, hb, hml, hown, ht⟩ (pX10_isRoomOrOut l G cs h q a1) okV_RX10_145 ⟨by decide, by decide⟩ hK hP [0, 1, 2] rfl 0 rfl rfl hl.1 rfl (Nat.le_of_ble_eq_true rfl) dX10_call_2 ⟨by decide, by decide⟩) hP hS (fun _ h => h) (fun H locs hP hS => ?_)
  refine lv_if_ne (tgt := 11) hx hb dX10_call_5 (by decide) (fun c1 => False.elim (by revert c1; decide)) (fun c2 => ?_)
  refine lv_bipush (v := (-2)) hx hb dX10_call_8 (by decide) ?_
  exact retPi hx hb hr hlk hS dX10_call_10 (rfl)

set_option maxRecDepth 100000 in
set_option maxHeartbeats 4000000 in
theorem pX10_undo (l : Launch) (G : va_G) (cs : Nat → ClassId) (h : Nat) (q : Nat → Nat)  : PureI l yX10_undo cX10_undo 1 (some .int) 1 G (TY cs) [.ref h] [(xc0 cs h q), (xc12 cs h q), (xc13 cs h q)] (-2) := by
  refine mkP (Qc := QPi (-2)) (by decide) (by simp [lg_sl, Value.category]) ?_
  intro p e s m args below meth c ls hx hb hml hr hlk hown ht hK hP hS hl
  have hl : lv_has ls 1 [(0, .ref h)] := hl
  refine lv_aload_n hx hb dX10_undo_0 rfl (lv_at hl 0 rfl) ?_
  refine behI (runVP (As := []) (rest := []) ⟨hx, hb, hml, hown, ht⟩ (pX10_hasHouse l G cs h q ) okV_RX10_152 ⟨by decide, by decide⟩ hK hP [0, 1, 2] rfl 0 rfl rfl hl.1 rfl (Nat.le_of_ble_eq_true rfl) dX10_undo_1 ⟨by decide, by decide⟩) hP hS (fun _ h => h) (fun H locs hP hS => ?_)
  refine lv_if_ne (tgt := 10) hx hb dX10_undo_4 (by decide) (fun c1 => False.elim (by revert c1; decide)) (fun c2 => ?_)
  refine lv_bipush (v := (-2)) hx hb dX10_undo_7 (by decide) ?_
  exact retPi hx hb hr hlk hS dX10_undo_9 (rfl)

set_option maxRecDepth 100000 in
set_option maxHeartbeats 4000000 in
theorem pX10_anew (l : Launch) (G : va_G) (cs : Nat → ClassId) (h : Nat) (q : Nat → Nat)  : PureI l yX10_anew cX10_anew 2 (some .int) 1 G (TY cs) [.ref h] [(xc0 cs h q), (xc12 cs h q), (xc13 cs h q)] (-2) := by
  refine mkP (Qc := QPi (-2)) (by decide) (by simp [lg_sl, Value.category]) ?_
  intro p e s m args below meth c ls hx hb hml hr hlk hown ht hK hP hS hl
  have hl : lv_has ls 2 [(0, .ref h)] := hl
  refine lv_aload_n hx hb dX10_anew_0 rfl (lv_at hl 0 rfl) ?_
  refine behI (runVP (As := []) (rest := []) ⟨hx, hb, hml, hown, ht⟩ (pX10_hasHouse l G cs h q ) okV_RX10_152 ⟨by decide, by decide⟩ hK hP [0, 1, 2] rfl 0 rfl rfl hl.1 rfl (Nat.le_of_ble_eq_true rfl) dX10_anew_1 ⟨by decide, by decide⟩) hP hS (fun _ h => h) (fun H locs hP hS => ?_)
  refine lv_if_ne (tgt := 10) hx hb dX10_anew_4 (by decide) (fun c1 => False.elim (by revert c1; decide)) (fun c2 => ?_)
  refine lv_bipush (v := (-2)) hx hb dX10_anew_7 (by decide) ?_
  exact retPi hx hb hr hlk hS dX10_anew_9 (rfl)

set_option maxRecDepth 100000 in
set_option maxHeartbeats 4000000 in
theorem pX10_later (l : Launch) (G : va_G) (cs : Nat → ClassId) (h : Nat) (q : Nat → Nat) (a1 : Int32) (a2 : Int32) : PureI l yX10_later cX10_later 4 (some .int) 2 G (TY cs) [.ref h, .int a1, .int a2] [(xc0 cs h q), (xc12 cs h q), (xc13 cs h q)] (-2) := by
  refine mkP (Qc := QPi (-2)) (by decide) (by simp [lg_sl, Value.category]) ?_
  intro p e s m args below meth c ls hx hb hml hr hlk hown ht hK hP hS hl
  have hl : lv_has ls 4 [(0, .ref h), (1, .int a1), (2, .int a2)] := hl
  refine lv_aload_n hx hb dX10_later_0 rfl (lv_at hl 0 rfl) ?_
  refine lv_iload_n hx hb dX10_later_1 rfl (lv_at hl 1 rfl) ?_
  refine behI (runVP (As := [.int a1]) (rest := []) ⟨hx, hb, hml, hown, ht⟩ (pX10_isRoomOrOut l G cs h q a1) okV_RX10_145 ⟨by decide, by decide⟩ hK hP [0, 1, 2] rfl 0 rfl rfl hl.1 rfl (Nat.le_of_ble_eq_true rfl) dX10_later_2 ⟨by decide, by decide⟩) hP hS (fun _ h => h) (fun H locs hP hS => ?_)
  refine lv_if_eq (tgt := 19) hx hb dX10_later_5 (by decide) (fun c2 => ?_) (fun c1 => False.elim (by revert c1; decide))
  refine lv_bipush (v := (-2)) hx hb dX10_later_19 (by decide) ?_
  exact retPi hx hb hr hlk hS dX10_later_21 (rfl)

set_option maxRecDepth 100000 in
set_option maxHeartbeats 4000000 in
theorem pX10_round (l : Launch) (G : va_G) (cs : Nat → ClassId) (h : Nat) (q : Nat → Nat) (a1 : Int32) : PureI l yX10_round cX10_round 3 (some .int) 3 G (TY cs) [.ref h, .int a1] [(xc0 cs h q), (xc12 cs h q), (xc13 cs h q)] (-2) := by
  refine mkP (Qc := QPi (-2)) (by decide) (by simp [lg_sl, Value.category]) ?_
  intro p e s m args below meth c ls hx hb hml hr hlk hown ht hK hP hS hl
  have hl : lv_has ls 3 [(0, .ref h), (1, .int a1)] := hl
  refine lv_aload_n hx hb dX10_round_0 rfl (lv_at hl 0 rfl) ?_
  refine lv_iload_n hx hb dX10_round_1 rfl (lv_at hl 1 rfl) ?_
  refine lv_iconst (v := 1) hx hb dX10_round_2 (by decide) ?_
  refine behI (runVP (As := [.int a1, .int 1]) (rest := []) ⟨hx, hb, hml, hown, ht⟩ (pX10_askRound l G cs h q a1 1) okV_RX10_186 ⟨by decide, by decide⟩ hK hP [0, 1, 2] rfl 0 rfl rfl hl.1 rfl (Nat.le_of_ble_eq_true rfl) dX10_round_3 ⟨by decide, by decide⟩) hP hS (fun _ h => h) (fun H locs hP hS => ?_)
  refine lv_istore_n (lv' := [(2, .int (-2)), (0, .ref h), (1, .int a1)]) hx hb dX10_round_6 rfl hl (by decide) rfl (fun ls hl => ?_)
  refine lv_iload_n hx hb dX10_round_7 rfl (lv_at hl 0 rfl) ?_
  refine lv_if_eq (tgt := 15) hx hb dX10_round_8 (by decide) (fun c1 => False.elim (by revert c1; decide)) (fun c2 => ?_)
  refine lv_iload_n hx hb dX10_round_11 rfl (lv_at hl 0 rfl) ?_
  refine lv_goto (tgt := 26) hx hb dX10_round_12 (by decide) ?_
  exact retPi hx hb hr hlk hS dX10_round_26 (rfl)

set_option maxRecDepth 100000 in
set_option maxHeartbeats 4000000 in
theorem pX10_behind (l : Launch) (G : va_G) (cs : Nat → ClassId) (h : Nat) (q : Nat → Nat) (a1 : Int32) (a2 : Int32) : PureI l yX10_behind cX10_behind 4 (some .int) 3 G (TY cs) [.ref h, .int a1, .int a2] [(xc0 cs h q), (xc12 cs h q), (xc13 cs h q)] (-2) := by
  refine mkP (Qc := QPi (-2)) (by decide) (by simp [lg_sl, Value.category]) ?_
  intro p e s m args below meth c ls hx hb hml hr hlk hown ht hK hP hS hl
  have hl : lv_has ls 4 [(0, .ref h), (1, .int a1), (2, .int a2)] := hl
  refine lv_aload_n hx hb dX10_behind_0 rfl (lv_at hl 0 rfl) ?_
  refine lv_iload_n hx hb dX10_behind_1 rfl (lv_at hl 1 rfl) ?_
  refine lv_aload_n hx hb dX10_behind_2 rfl (lv_at hl 0 rfl) ?_
  refine lv_iload_n hx hb dX10_behind_3 rfl (lv_at hl 2 rfl) ?_
  refine behI (runVP (As := [.int a2]) (rest := [.int a1, .ref h]) ⟨hx, hb, hml, hown, ht⟩ (pX10_isRoom l G cs h q a2) okV_RX10_120 ⟨by decide, by decide⟩ hK hP [0, 1, 2] rfl 0 rfl rfl hl.1 rfl (Nat.le_of_ble_eq_true rfl) dX10_behind_4 ⟨by decide, by decide⟩) hP hS (fun _ h => h) (fun H locs hP hS => ?_)
  refine behI (runVP (As := [.int a1, .int 0]) (rest := []) ⟨hx, hb, hml, hown, ht⟩ (pX10_askRound l G cs h q a1 0) okV_RX10_186 ⟨by decide, by decide⟩ hK hP [0, 1, 2] rfl 0 rfl rfl hl.1 rfl (Nat.le_of_ble_eq_true rfl) dX10_behind_7 ⟨by decide, by decide⟩) hP hS (fun _ h => h) (fun H locs hP hS => ?_)
  refine lv_istore_n (lv' := [(3, .int (-2)), (0, .ref h), (1, .int a1), (2, .int a2)]) hx hb dX10_behind_10 rfl hl (by decide) rfl (fun ls hl => ?_)
  refine lv_iload_n hx hb dX10_behind_11 rfl (lv_at hl 0 rfl) ?_
  refine lv_if_eq (tgt := 17) hx hb dX10_behind_12 (by decide) (fun c1 => False.elim (by revert c1; decide)) (fun c2 => ?_)
  refine lv_iload_n hx hb dX10_behind_15 rfl (lv_at hl 0 rfl) ?_
  exact retPi hx hb hr hlk hS dX10_behind_16 (rfl)

set_option maxRecDepth 100000 in
set_option maxHeartbeats 4000000 in
theorem pX10_disturbs (l : Launch) (G : va_G) (cs : Nat → ClassId) (h : Nat) (q : Nat → Nat) (a1 : Int32) : PureI l yX10_disturbs cX10_disturbs 7 (some .int) 3 G (TY cs) [.ref h, .int a1] [(xc0 cs h q), (xc12 cs h q), (xc13 cs h q)] (-2) := by
  refine mkP (Qc := QPi (-2)) (by decide) (by simp [lg_sl, Value.category]) ?_
  intro p e s m args below meth c ls hx hb hml hr hlk hown ht hK hP hS hl
  have hl : lv_has ls 7 [(0, .ref h), (1, .int a1)] := hl
  refine lv_aload_n hx hb dX10_disturbs_0 rfl (lv_at hl 0 rfl) ?_
  refine lv_iload_n hx hb dX10_disturbs_1 rfl (lv_at hl 1 rfl) ?_
  refine lv_iconst (v := 1) hx hb dX10_disturbs_2 (by decide) ?_
  refine behI (runVP (As := [.int a1, .int 1]) (rest := []) ⟨hx, hb, hml, hown, ht⟩ (pX10_askRound l G cs h q a1 1) okV_RX10_186 ⟨by decide, by decide⟩ hK hP [0, 1, 2] rfl 0 rfl rfl hl.1 rfl (Nat.le_of_ble_eq_true rfl) dX10_disturbs_3 ⟨by decide, by decide⟩) hP hS (fun _ h => h) (fun H locs hP hS => ?_)
  refine lv_istore_n (lv' := [(2, .int (-2)), (0, .ref h), (1, .int a1)]) hx hb dX10_disturbs_6 rfl hl (by decide) rfl (fun ls hl => ?_)
  refine lv_iload_n hx hb dX10_disturbs_7 rfl (lv_at hl 0 rfl) ?_
  refine lv_if_eq (tgt := 13) hx hb dX10_disturbs_8 (by decide) (fun c1 => False.elim (by revert c1; decide)) (fun c2 => ?_)
  refine lv_iload_n hx hb dX10_disturbs_11 rfl (lv_at hl 0 rfl) ?_
  exact retPi hx hb hr hlk hS dX10_disturbs_12 (rfl)

set_option maxRecDepth 100000 in
set_option maxHeartbeats 4000000 in
theorem pX10_stop (l : Launch) (G : va_G) (cs : Nat → ClassId) (h : Nat) (q : Nat → Nat) (a1 : Int32) : PureI l yX10_stop cX10_stop 8 (some .int) 3 G (TY cs) [.ref h, .int a1] [(xc0 cs h q), (xc12 cs h q), (xc13 cs h q)] (-2) := by
  refine mkP (Qc := QPi (-2)) (by decide) (by simp [lg_sl, Value.category]) ?_
  intro p e s m args below meth c ls hx hb hml hr hlk hown ht hK hP hS hl
  have hl : lv_has ls 8 [(0, .ref h), (1, .int a1)] := hl
  refine lv_aload_n hx hb dX10_stop_0 rfl (lv_at hl 0 rfl) ?_
  refine lv_iload_n hx hb dX10_stop_1 rfl (lv_at hl 1 rfl) ?_
  refine lv_iconst (v := 1) hx hb dX10_stop_2 (by decide) ?_
  refine behI (runVP (As := [.int a1, .int 1]) (rest := []) ⟨hx, hb, hml, hown, ht⟩ (pX10_askRound l G cs h q a1 1) okV_RX10_186 ⟨by decide, by decide⟩ hK hP [0, 1, 2] rfl 0 rfl rfl hl.1 rfl (Nat.le_of_ble_eq_true rfl) dX10_stop_3 ⟨by decide, by decide⟩) hP hS (fun _ h => h) (fun H locs hP hS => ?_)
  refine lv_istore_n (lv' := [(2, .int (-2)), (0, .ref h), (1, .int a1)]) hx hb dX10_stop_6 rfl hl (by decide) rfl (fun ls hl => ?_)
  refine lv_iload_n hx hb dX10_stop_7 rfl (lv_at hl 0 rfl) ?_
  refine lv_if_eq (tgt := 13) hx hb dX10_stop_8 (by decide) (fun c1 => False.elim (by revert c1; decide)) (fun c2 => ?_)
  refine lv_iload_n hx hb dX10_stop_11 rfl (lv_at hl 0 rfl) ?_
  exact retPi hx hb hr hlk hS dX10_stop_12 (rfl)

set_option maxRecDepth 100000 in
set_option maxHeartbeats 4000000 in
theorem pX10_doubt (l : Launch) (G : va_G) (cs : Nat → ClassId) (h : Nat) (q : Nat → Nat) (a1 : Int32) (a2 : Int32) : PureI l yX10_doubt cX10_doubt 6 (some .int) 3 G (TY cs) [.ref h, .int a1, .int a2] [(xc0 cs h q), (xc12 cs h q), (xc13 cs h q)] (-2) := by
  refine mkP (Qc := QPi (-2)) (by decide) (by simp [lg_sl, Value.category]) ?_
  intro p e s m args below meth c ls hx hb hml hr hlk hown ht hK hP hS hl
  have hl : lv_has ls 6 [(0, .ref h), (1, .int a1), (2, .int a2)] := hl
  refine lv_aload_n hx hb dX10_doubt_0 rfl (lv_at hl 0 rfl) ?_
  refine lv_iload_n hx hb dX10_doubt_1 rfl (lv_at hl 1 rfl) ?_
  refine lv_aload_n hx hb dX10_doubt_2 rfl (lv_at hl 0 rfl) ?_
  refine lv_iload_n hx hb dX10_doubt_3 rfl (lv_at hl 2 rfl) ?_
  refine behI (runVP (As := [.int a2]) (rest := [.int a1, .ref h]) ⟨hx, hb, hml, hown, ht⟩ (pX10_isPartOfMillion l G cs h q a2) okV_RX10_205 ⟨by decide, by decide⟩ hK hP [] rfl 0 rfl rfl hl.1 rfl (Nat.le_of_ble_eq_true rfl) dX10_doubt_4 ⟨by decide, by decide⟩) hP hS (fun _ h => h) (fun H locs hP hS => ?_)
  refine behI (runVP (As := [.int a1, .int (inG a2 0 1000000)]) (rest := []) ⟨hx, hb, hml, hown, ht⟩ (pX10_askRound l G cs h q a1 (inG a2 0 1000000)) okV_RX10_186 ⟨by decide, by decide⟩ hK hP [0, 1, 2] rfl 0 rfl rfl hl.1 rfl (Nat.le_of_ble_eq_true rfl) dX10_doubt_7 ⟨by decide, by decide⟩) hP hS (fun _ h => h) (fun H locs hP hS => ?_)
  refine lv_istore_n (lv' := [(3, .int (-2)), (0, .ref h), (1, .int a1), (2, .int a2)]) hx hb dX10_doubt_10 rfl hl (by decide) rfl (fun ls hl => ?_)
  refine lv_iload_n hx hb dX10_doubt_11 rfl (lv_at hl 0 rfl) ?_
  refine lv_if_eq (tgt := 17) hx hb dX10_doubt_12 (by decide) (fun c1 => False.elim (by revert c1; decide)) (fun c2 => ?_)
  refine lv_iload_n hx hb dX10_doubt_15 rfl (lv_at hl 0 rfl) ?_
  exact retPi hx hb hr hlk hS dX10_doubt_16 (rfl)

set_option maxRecDepth 100000 in
set_option maxHeartbeats 4000000 in
theorem pX10_walks (l : Launch) (G : va_G) (cs : Nat → ClassId) (h : Nat) (q : Nat → Nat) (a1 : Int32) (a2 : Int32) : PureI l yX10_walks cX10_walks 4 (some .int) 3 G (TY cs) [.ref h, .int a1, .int a2] [(xc0 cs h q), (xc12 cs h q), (xc13 cs h q)] (-2) := by
  refine mkP (Qc := QPi (-2)) (by decide) (by simp [lg_sl, Value.category]) ?_
  intro p e s m args below meth c ls hx hb hml hr hlk hown ht hK hP hS hl
  have hl : lv_has ls 4 [(0, .ref h), (1, .int a1), (2, .int a2)] := hl
  refine lv_aload_n hx hb dX10_walks_0 rfl (lv_at hl 0 rfl) ?_
  refine lv_iload_n hx hb dX10_walks_1 rfl (lv_at hl 1 rfl) ?_
  refine lv_aload_n hx hb dX10_walks_2 rfl (lv_at hl 0 rfl) ?_
  refine lv_iload_n hx hb dX10_walks_3 rfl (lv_at hl 2 rfl) ?_
  refine behI (runVP (As := [.int a2]) (rest := [.int a1, .ref h]) ⟨hx, hb, hml, hown, ht⟩ (pX10_isRoom l G cs h q a2) okV_RX10_120 ⟨by decide, by decide⟩ hK hP [0, 1, 2] rfl 0 rfl rfl hl.1 rfl (Nat.le_of_ble_eq_true rfl) dX10_walks_4 ⟨by decide, by decide⟩) hP hS (fun _ h => h) (fun H locs hP hS => ?_)
  refine behI (runVP (As := [.int a1, .int 0]) (rest := []) ⟨hx, hb, hml, hown, ht⟩ (pX10_askRound l G cs h q a1 0) okV_RX10_186 ⟨by decide, by decide⟩ hK hP [0, 1, 2] rfl 0 rfl rfl hl.1 rfl (Nat.le_of_ble_eq_true rfl) dX10_walks_7 ⟨by decide, by decide⟩) hP hS (fun _ h => h) (fun H locs hP hS => ?_)
  refine lv_istore_n (lv' := [(3, .int (-2)), (0, .ref h), (1, .int a1), (2, .int a2)]) hx hb dX10_walks_10 rfl hl (by decide) rfl (fun ls hl => ?_)
  refine lv_iload_n hx hb dX10_walks_11 rfl (lv_at hl 0 rfl) ?_
  refine lv_if_eq (tgt := 17) hx hb dX10_walks_12 (by decide) (fun c1 => False.elim (by revert c1; decide)) (fun c2 => ?_)
  refine lv_iload_n hx hb dX10_walks_15 rfl (lv_at hl 0 rfl) ?_
  exact retPi hx hb hr hlk hS dX10_walks_16 (rfl)

set_option maxRecDepth 100000 in
set_option maxHeartbeats 4000000 in
theorem pX10_penny (l : Launch) (G : va_G) (cs : Nat → ClassId) (h : Nat) (q : Nat → Nat) (a1 : Int32) : PureI l yX10_penny cX10_penny 9 (some .int) 3 G (TY cs) [.ref h, .int a1] [(xc0 cs h q), (xc12 cs h q), (xc13 cs h q)] (-2) := by
  refine mkP (Qc := QPi (-2)) (by decide) (by simp [lg_sl, Value.category]) ?_
  intro p e s m args below meth c ls hx hb hml hr hlk hown ht hK hP hS hl
  have hl : lv_has ls 9 [(0, .ref h), (1, .int a1)] := hl
  refine lv_aload_n hx hb dX10_penny_0 rfl (lv_at hl 0 rfl) ?_
  refine lv_iload_n hx hb dX10_penny_1 rfl (lv_at hl 1 rfl) ?_
  refine lv_iconst (v := 1) hx hb dX10_penny_2 (by decide) ?_
  refine behI (runVP (As := [.int a1, .int 1]) (rest := []) ⟨hx, hb, hml, hown, ht⟩ (pX10_askRound l G cs h q a1 1) okV_RX10_186 ⟨by decide, by decide⟩ hK hP [0, 1, 2] rfl 0 rfl rfl hl.1 rfl (Nat.le_of_ble_eq_true rfl) dX10_penny_3 ⟨by decide, by decide⟩) hP hS (fun _ h => h) (fun H locs hP hS => ?_)
  refine lv_istore_n (lv' := [(2, .int (-2)), (0, .ref h), (1, .int a1)]) hx hb dX10_penny_6 rfl hl (by decide) rfl (fun ls hl => ?_)
  refine lv_iload_n hx hb dX10_penny_7 rfl (lv_at hl 0 rfl) ?_
  refine lv_if_eq (tgt := 13) hx hb dX10_penny_8 (by decide) (fun c1 => False.elim (by revert c1; decide)) (fun c2 => ?_)
  refine lv_iload_n hx hb dX10_penny_11 rfl (lv_at hl 0 rfl) ?_
  exact retPi hx hb hr hlk hS dX10_penny_12 (rfl)

set_option maxRecDepth 100000 in
set_option maxHeartbeats 4000000 in
theorem pX10_best (l : Launch) (G : va_G) (cs : Nat → ClassId) (h : Nat) (q : Nat → Nat) (a1 : Int32) (a2 : Int32) : PureI l yX10_best cX10_best 3 (some .int) 2 G (TY cs) [.ref h, .int a1, .int a2] [(xc0 cs h q), (xc12 cs h q), (xc13 cs h q)] (-2) := by
  refine mkP (Qc := QPi (-2)) (by decide) (by simp [lg_sl, Value.category]) ?_
  intro p e s m args below meth c ls hx hb hml hr hlk hown ht hK hP hS hl
  have hl : lv_has ls 3 [(0, .ref h), (1, .int a1), (2, .int a2)] := hl
  refine lv_aload_n hx hb dX10_best_0 rfl (lv_at hl 0 rfl) ?_
  refine lv_iload_n hx hb dX10_best_1 rfl (lv_at hl 1 rfl) ?_
  refine behI (runVP (As := [.int a1]) (rest := []) ⟨hx, hb, hml, hown, ht⟩ (pX10_isRoom l G cs h q a1) okV_RX10_120 ⟨by decide, by decide⟩ hK hP [0, 1, 2] rfl 0 rfl rfl hl.1 rfl (Nat.le_of_ble_eq_true rfl) dX10_best_2 ⟨by decide, by decide⟩) hP hS (fun _ h => h) (fun H locs hP hS => ?_)
  refine lv_if_eq (tgt := 16) hx hb dX10_best_5 (by decide) (fun c2 => ?_) (fun c1 => False.elim (by revert c1; decide))
  refine lv_bipush (v := (-2)) hx hb dX10_best_16 (by decide) ?_
  exact retPi hx hb hr hlk hS dX10_best_18 (rfl)

set_option maxRecDepth 100000 in
set_option maxHeartbeats 4000000 in
theorem pX10_goes (l : Launch) (G : va_G) (cs : Nat → ClassId) (h : Nat) (q : Nat → Nat) (a1 : Int32) (a2 : Int32) (a3 : Int32) : PureI l yX10_goes cX10_goes 4 (some .int) 2 G (TY cs) [.ref h, .int a1, .int a2, .int a3] [(xc0 cs h q), (xc12 cs h q), (xc13 cs h q)] (-2) := by
  refine mkP (Qc := QPi (-2)) (by decide) (by simp [lg_sl, Value.category]) ?_
  intro p e s m args below meth c ls hx hb hml hr hlk hown ht hK hP hS hl
  have hl : lv_has ls 4 [(0, .ref h), (1, .int a1), (2, .int a2), (3, .int a3)] := hl
  refine lv_aload_n hx hb dX10_goes_0 rfl (lv_at hl 0 rfl) ?_
  refine lv_iload_n hx hb dX10_goes_1 rfl (lv_at hl 1 rfl) ?_
  refine behI (runVP (As := [.int a1]) (rest := []) ⟨hx, hb, hml, hown, ht⟩ (pX10_isRoom l G cs h q a1) okV_RX10_120 ⟨by decide, by decide⟩ hK hP [0, 1, 2] rfl 0 rfl rfl hl.1 rfl (Nat.le_of_ble_eq_true rfl) dX10_goes_2 ⟨by decide, by decide⟩) hP hS (fun _ h => h) (fun H locs hP hS => ?_)
  refine lv_if_eq (tgt := 16) hx hb dX10_goes_5 (by decide) (fun c2 => ?_) (fun c1 => False.elim (by revert c1; decide))
  refine lv_bipush (v := (-2)) hx hb dX10_goes_16 (by decide) ?_
  exact retPi hx hb hr hlk hS dX10_goes_18 (rfl)

set_option maxRecDepth 100000 in
set_option maxHeartbeats 4000000 in
theorem pX10_begins (l : Launch) (G : va_G) (cs : Nat → ClassId) (h : Nat) (q : Nat → Nat) (a1 : Int32) : PureI l yX10_begins cX10_begins 2 (some .int) 0 G (TY cs) [.ref h, .int a1] [(xc0 cs h q), (xc12 cs h q), (xc13 cs h q)] (-2) := by
  refine mkP (Qc := QPi (-2)) (by decide) (by simp [lg_sl, Value.category]) ?_
  intro p e s m args below meth c ls hx hb hml hr hlk hown ht hK hP hS hl
  have hl : lv_has ls 2 [(0, .ref h), (1, .int a1)] := hl
  refine lv_aload_n hx hb dX10_begins_0 rfl (lv_at hl 0 rfl) ?_
  refine getF hx hb ht hown hK hP iTX10 0 3 rfl rfl (by decide) fl_RX10_31 rfl dX10_begins_1 ?_
  refine getF hx hb ht hown hK hP iTX8 1 0 rfl rfl (by decide) fl_RX10_98 rfl dX10_begins_4 ?_
  refine getF hx hb ht hown hK hP iTX3 2 5 rfl rfl (by decide) fl_RX10_159 rfl dX10_begins_7 ?_
  refine lv_iconst (v := 1) hx hb dX10_begins_10 (by decide) ?_
  refine lv_icmp_lt (tgt := 22) hx hb dX10_begins_11 (by decide) (fun c2 => ?_) (fun c1 => False.elim (by revert c1; decide))
  refine lv_bipush (v := (-2)) hx hb dX10_begins_22 (by decide) ?_
  exact retPi hx hb hr hlk hS dX10_begins_24 (rfl)

set_option maxRecDepth 100000 in
set_option maxHeartbeats 4000000 in
theorem pX10_soon (l : Launch) (G : va_G) (cs : Nat → ClassId) (h : Nat) (q : Nat → Nat) (a1 : Int32) (a2 : Int32) : PureI l yX10_soon cX10_soon 4 (some .int) 2 G (TY cs) [.ref h, .int a1, .int a2] [(xc0 cs h q), (xc12 cs h q), (xc13 cs h q)] (-2) := by
  refine mkP (Qc := QPi (-2)) (by decide) (by simp [lg_sl, Value.category]) ?_
  intro p e s m args below meth c ls hx hb hml hr hlk hown ht hK hP hS hl
  have hl : lv_has ls 4 [(0, .ref h), (1, .int a1), (2, .int a2)] := hl
  refine lv_aload_n hx hb dX10_soon_0 rfl (lv_at hl 0 rfl) ?_
  refine lv_iload_n hx hb dX10_soon_1 rfl (lv_at hl 1 rfl) ?_
  refine behI (runVP (As := [.int a1]) (rest := []) ⟨hx, hb, hml, hown, ht⟩ (pX10_isRoom l G cs h q a1) okV_RX10_120 ⟨by decide, by decide⟩ hK hP [0, 1, 2] rfl 0 rfl rfl hl.1 rfl (Nat.le_of_ble_eq_true rfl) dX10_soon_2 ⟨by decide, by decide⟩) hP hS (fun _ h => h) (fun H locs hP hS => ?_)
  refine lv_if_eq (tgt := 16) hx hb dX10_soon_5 (by decide) (fun c2 => ?_) (fun c1 => False.elim (by revert c1; decide))
  refine lv_bipush (v := (-2)) hx hb dX10_soon_16 (by decide) ?_
  exact retPi hx hb hr hlk hS dX10_soon_18 (rfl)
end
section
set_option maxRecDepth 100000 in
set_option maxHeartbeats 4000000 in
theorem pX10_far (l : Launch) (G : va_G) (cs : Nat → ClassId) (h : Nat) (q : Nat → Nat) (a1 : Int32) (a2 : Int32) : PureI l yX10_far cX10_far 5 (some .int) 2 G (TY cs) [.ref h, .int a1, .int a2] [(xc0 cs h q), (xc12 cs h q), (xc13 cs h q)] (-2) := by
  refine mkP (Qc := QPi (-2)) (by decide) (by simp [lg_sl, Value.category]) ?_
  intro p e s m args below meth c ls hx hb hml hr hlk hown ht hK hP hS hl
  have hl : lv_has ls 5 [(0, .ref h), (1, .int a1), (2, .int a2)] := hl
  refine lv_aload_n hx hb dX10_far_0 rfl (lv_at hl 0 rfl) ?_
  refine lv_iload_n hx hb dX10_far_1 rfl (lv_at hl 1 rfl) ?_
  refine behI (runVP (As := [.int a1]) (rest := []) ⟨hx, hb, hml, hown, ht⟩ (pX10_isRoom l G cs h q a1) okV_RX10_120 ⟨by decide, by decide⟩ hK hP [0, 1, 2] rfl 0 rfl rfl hl.1 rfl (Nat.le_of_ble_eq_true rfl) dX10_far_2 ⟨by decide, by decide⟩) hP hS (fun _ h => h) (fun H locs hP hS => ?_)
  refine lv_if_eq (tgt := 16) hx hb dX10_far_5 (by decide) (fun c2 => ?_) (fun c1 => False.elim (by revert c1; decide))
  refine lv_bipush (v := (-2)) hx hb dX10_far_16 (by decide) ?_
  exact retPi hx hb hr hlk hS dX10_far_18 (rfl)

set_option maxRecDepth 100000 in
set_option maxHeartbeats 4000000 in
theorem pX10_hangs (l : Launch) (G : va_G) (cs : Nat → ClassId) (h : Nat) (q : Nat → Nat) (a1 : Int32) : PureI l yX10_hangs cX10_hangs 6 (some .int) 3 G (TY cs) [.ref h, .int a1] [(xc0 cs h q), (xc12 cs h q), (xc13 cs h q)] (-2) := by
  refine mkP (Qc := QPi (-2)) (by decide) (by simp [lg_sl, Value.category]) ?_
  intro p e s m args below meth c ls hx hb hml hr hlk hown ht hK hP hS hl
  have hl : lv_has ls 6 [(0, .ref h), (1, .int a1)] := hl
  refine lv_aload_n hx hb dX10_hangs_0 rfl (lv_at hl 0 rfl) ?_
  refine lv_iload_n hx hb dX10_hangs_1 rfl (lv_at hl 1 rfl) ?_
  refine lv_iconst (v := 1) hx hb dX10_hangs_2 (by decide) ?_
  refine behI (runVP (As := [.int a1, .int 1]) (rest := []) ⟨hx, hb, hml, hown, ht⟩ (pX10_askRound l G cs h q a1 1) okV_RX10_186 ⟨by decide, by decide⟩ hK hP [0, 1, 2] rfl 0 rfl rfl hl.1 rfl (Nat.le_of_ble_eq_true rfl) dX10_hangs_3 ⟨by decide, by decide⟩) hP hS (fun _ h => h) (fun H locs hP hS => ?_)
  refine lv_istore_n (lv' := [(2, .int (-2)), (0, .ref h), (1, .int a1)]) hx hb dX10_hangs_6 rfl hl (by decide) rfl (fun ls hl => ?_)
  refine lv_iload_n hx hb dX10_hangs_7 rfl (lv_at hl 0 rfl) ?_
  refine lv_if_eq (tgt := 13) hx hb dX10_hangs_8 (by decide) (fun c1 => False.elim (by revert c1; decide)) (fun c2 => ?_)
  refine lv_iload_n hx hb dX10_hangs_11 rfl (lv_at hl 0 rfl) ?_
  exact retPi hx hb hr hlk hS dX10_hangs_12 (rfl)

set_option maxRecDepth 100000 in
set_option maxHeartbeats 4000000 in
theorem pX10_rest (l : Launch) (G : va_G) (cs : Nat → ClassId) (h : Nat) (q : Nat → Nat)  : PureI l yX10_rest cX10_rest 2 (some .int) 1 G (TY cs) [.ref h] [(xc0 cs h q), (xc12 cs h q), (xc13 cs h q)] (-2) := by
  refine mkP (Qc := QPi (-2)) (by decide) (by simp [lg_sl, Value.category]) ?_
  intro p e s m args below meth c ls hx hb hml hr hlk hown ht hK hP hS hl
  have hl : lv_has ls 2 [(0, .ref h)] := hl
  refine lv_aload_n hx hb dX10_rest_0 rfl (lv_at hl 0 rfl) ?_
  refine behI (runVP (As := []) (rest := []) ⟨hx, hb, hml, hown, ht⟩ (pX10_hasHouse l G cs h q ) okV_RX10_152 ⟨by decide, by decide⟩ hK hP [0, 1, 2] rfl 0 rfl rfl hl.1 rfl (Nat.le_of_ble_eq_true rfl) dX10_rest_1 ⟨by decide, by decide⟩) hP hS (fun _ h => h) (fun H locs hP hS => ?_)
  refine lv_if_ne (tgt := 10) hx hb dX10_rest_4 (by decide) (fun c1 => False.elim (by revert c1; decide)) (fun c2 => ?_)
  refine lv_bipush (v := (-2)) hx hb dX10_rest_7 (by decide) ?_
  exact retPi hx hb hr hlk hS dX10_rest_9 (rfl)

set_option maxRecDepth 100000 in
set_option maxHeartbeats 4000000 in
theorem pX10_trumpet (l : Launch) (G : va_G) (cs : Nat → ClassId) (h : Nat) (q : Nat → Nat)  : PureI l yX10_trumpet cX10_trumpet 1 (some .int) 1 G (TY cs) [.ref h] [(xc0 cs h q), (xc12 cs h q), (xc13 cs h q)] (-2) := by
  refine mkP (Qc := QPi (-2)) (by decide) (by simp [lg_sl, Value.category]) ?_
  intro p e s m args below meth c ls hx hb hml hr hlk hown ht hK hP hS hl
  have hl : lv_has ls 1 [(0, .ref h)] := hl
  refine lv_aload_n hx hb dX10_trumpet_0 rfl (lv_at hl 0 rfl) ?_
  refine behI (runVP (As := []) (rest := []) ⟨hx, hb, hml, hown, ht⟩ (pX10_hasHouse l G cs h q ) okV_RX10_152 ⟨by decide, by decide⟩ hK hP [0, 1, 2] rfl 0 rfl rfl hl.1 rfl (Nat.le_of_ble_eq_true rfl) dX10_trumpet_1 ⟨by decide, by decide⟩) hP hS (fun _ h => h) (fun H locs hP hS => ?_)
  refine lv_if_eq (tgt := 24) hx hb dX10_trumpet_4 (by decide) (fun c2 => ?_) (fun c1 => False.elim (by revert c1; decide))
  refine lv_bipush (v := (-2)) hx hb dX10_trumpet_24 (by decide) ?_
  exact retPi hx hb hr hlk hS dX10_trumpet_26 (rfl)

set_option maxRecDepth 100000 in
set_option maxHeartbeats 4000000 in
theorem pX10_quiet (l : Launch) (G : va_G) (cs : Nat → ClassId) (h : Nat) (q : Nat → Nat) (a1 : Int32) : PureI l yX10_quiet cX10_quiet 3 (some .int) 1 G (TY cs) [.ref h, .int a1] [(xc0 cs h q), (xc12 cs h q), (xc13 cs h q)] (-2) := by
  refine mkP (Qc := QPi (-2)) (by decide) (by simp [lg_sl, Value.category]) ?_
  intro p e s m args below meth c ls hx hb hml hr hlk hown ht hK hP hS hl
  have hl : lv_has ls 3 [(0, .ref h), (1, .int a1)] := hl
  refine lv_aload_n hx hb dX10_quiet_0 rfl (lv_at hl 0 rfl) ?_
  refine behI (runVP (As := []) (rest := []) ⟨hx, hb, hml, hown, ht⟩ (pX10_hasHouse l G cs h q ) okV_RX10_152 ⟨by decide, by decide⟩ hK hP [0, 1, 2] rfl 0 rfl rfl hl.1 rfl (Nat.le_of_ble_eq_true rfl) dX10_quiet_1 ⟨by decide, by decide⟩) hP hS (fun _ h => h) (fun H locs hP hS => ?_)
  refine lv_if_eq (tgt := 15) hx hb dX10_quiet_4 (by decide) (fun c2 => ?_) (fun c1 => False.elim (by revert c1; decide))
  refine lv_bipush (v := (-2)) hx hb dX10_quiet_15 (by decide) ?_
  exact retPi hx hb hr hlk hS dX10_quiet_17 (rfl)

set_option maxRecDepth 100000 in
set_option maxHeartbeats 4000000 in
theorem pX10_quietly (l : Launch) (G : va_G) (cs : Nat → ClassId) (h : Nat) (q : Nat → Nat) (a1 : Int32) : PureI l yX10_quietly cX10_quietly 2 (some .int) 1 G (TY cs) [.ref h, .int a1] [(xc0 cs h q), (xc12 cs h q), (xc13 cs h q)] (-2) := by
  refine mkP (Qc := QPi (-2)) (by decide) (by simp [lg_sl, Value.category]) ?_
  intro p e s m args below meth c ls hx hb hml hr hlk hown ht hK hP hS hl
  have hl : lv_has ls 2 [(0, .ref h), (1, .int a1)] := hl
  refine lv_aload_n hx hb dX10_quietly_0 rfl (lv_at hl 0 rfl) ?_
  refine behI (runVP (As := []) (rest := []) ⟨hx, hb, hml, hown, ht⟩ (pX10_hasHouse l G cs h q ) okV_RX10_152 ⟨by decide, by decide⟩ hK hP [0, 1, 2] rfl 0 rfl rfl hl.1 rfl (Nat.le_of_ble_eq_true rfl) dX10_quietly_1 ⟨by decide, by decide⟩) hP hS (fun _ h => h) (fun H locs hP hS => ?_)
  refine lv_if_eq (tgt := 15) hx hb dX10_quietly_4 (by decide) (fun c2 => ?_) (fun c1 => False.elim (by revert c1; decide))
  refine lv_bipush (v := (-2)) hx hb dX10_quietly_15 (by decide) ?_
  exact retPi hx hb hr hlk hS dX10_quietly_17 (rfl)

set_option maxRecDepth 100000 in
set_option maxHeartbeats 4000000 in
theorem pX10_card (l : Launch) (G : va_G) (cs : Nat → ClassId) (h : Nat) (q : Nat → Nat) (a1 : Int32) (a2 : Int32) : PureI l yX10_card cX10_card 3 (some .int) 2 G (TY cs) [.ref h, .int a1, .int a2] [(xc0 cs h q), (xc12 cs h q), (xc13 cs h q)] (-2) := by
  refine mkP (Qc := QPi (-2)) (by decide) (by simp [lg_sl, Value.category]) ?_
  intro p e s m args below meth c ls hx hb hml hr hlk hown ht hK hP hS hl
  have hl : lv_has ls 3 [(0, .ref h), (1, .int a1), (2, .int a2)] := hl
  refine lv_aload_n hx hb dX10_card_0 rfl (lv_at hl 0 rfl) ?_
  refine lv_iload_n hx hb dX10_card_1 rfl (lv_at hl 1 rfl) ?_
  refine behI (runVP (As := [.int a1]) (rest := []) ⟨hx, hb, hml, hown, ht⟩ (pX10_isRoom l G cs h q a1) okV_RX10_120 ⟨by decide, by decide⟩ hK hP [0, 1, 2] rfl 0 rfl rfl hl.1 rfl (Nat.le_of_ble_eq_true rfl) dX10_card_2 ⟨by decide, by decide⟩) hP hS (fun _ h => h) (fun H locs hP hS => ?_)
  refine lv_if_eq (tgt := 19) hx hb dX10_card_5 (by decide) (fun c2 => ?_) (fun c1 => False.elim (by revert c1; decide))
  refine lv_bipush (v := (-2)) hx hb dX10_card_19 (by decide) ?_
  exact retPi hx hb hr hlk hS dX10_card_21 (rfl)

set_option maxRecDepth 100000 in
set_option maxHeartbeats 4000000 in
theorem pX10_desk (l : Launch) (G : va_G) (cs : Nat → ClassId) (h : Nat) (q : Nat → Nat) (a1 : Int32) : PureI l yX10_desk cX10_desk 6 (some .int) 0 G (TY cs) [.ref h, .int a1] [(xc0 cs h q), (xc12 cs h q), (xc13 cs h q)] (-2) := by
  refine mkP (Qc := QPi (-2)) (by decide) (by simp [lg_sl, Value.category]) ?_
  intro p e s m args below meth c ls hx hb hml hr hlk hown ht hK hP hS hl
  have hl : lv_has ls 6 [(0, .ref h), (1, .int a1)] := hl
  refine lv_aload_n hx hb dX10_desk_0 rfl (lv_at hl 0 rfl) ?_
  refine getF hx hb ht hown hK hP iTX10 0 3 rfl rfl (by decide) fl_RX10_31 rfl dX10_desk_1 ?_
  refine getF hx hb ht hown hK hP iTX8 1 0 rfl rfl (by decide) fl_RX10_98 rfl dX10_desk_4 ?_
  refine getF hx hb ht hown hK hP iTX3 2 5 rfl rfl (by decide) fl_RX10_159 rfl dX10_desk_7 ?_
  refine lv_iconst (v := 1) hx hb dX10_desk_10 (by decide) ?_
  refine lv_icmp_lt (tgt := 25) hx hb dX10_desk_11 (by decide) (fun c2 => ?_) (fun c1 => False.elim (by revert c1; decide))
  refine lv_bipush (v := (-2)) hx hb dX10_desk_25 (by decide) ?_
  exact retPi hx hb hr hlk hS dX10_desk_27 (rfl)

set_option maxRecDepth 100000 in
set_option maxHeartbeats 4000000 in
theorem pX10_one (l : Launch) (G : va_G) (cs : Nat → ClassId) (h : Nat) (q : Nat → Nat) (a1 : Int32) : PureI l yX10_one cX10_one 2 (some .int) 2 G (TY cs) [.ref h, .int a1] [(xc0 cs h q), (xc12 cs h q), (xc13 cs h q)] (-2) := by
  refine mkP (Qc := QPi (-2)) (by decide) (by simp [lg_sl, Value.category]) ?_
  intro p e s m args below meth c ls hx hb hml hr hlk hown ht hK hP hS hl
  have hl : lv_has ls 2 [(0, .ref h), (1, .int a1)] := hl
  refine lv_aload_n hx hb dX10_one_0 rfl (lv_at hl 0 rfl) ?_
  refine lv_iload_n hx hb dX10_one_1 rfl (lv_at hl 1 rfl) ?_
  refine behI (runVP (As := [.int a1]) (rest := []) ⟨hx, hb, hml, hown, ht⟩ (pX10_isRoom l G cs h q a1) okV_RX10_120 ⟨by decide, by decide⟩ hK hP [0, 1, 2] rfl 0 rfl rfl hl.1 rfl (Nat.le_of_ble_eq_true rfl) dX10_one_2 ⟨by decide, by decide⟩) hP hS (fun _ h => h) (fun H locs hP hS => ?_)
  refine lv_if_ne (tgt := 11) hx hb dX10_one_5 (by decide) (fun c1 => False.elim (by revert c1; decide)) (fun c2 => ?_)
  refine lv_bipush (v := (-2)) hx hb dX10_one_8 (by decide) ?_
  exact retPi hx hb hr hlk hS dX10_one_10 (rfl)

set_option maxRecDepth 100000 in
set_option maxHeartbeats 4000000 in
theorem pX10_two (l : Launch) (G : va_G) (cs : Nat → ClassId) (h : Nat) (q : Nat → Nat) (a1 : Int32) (a2 : Int32) : PureI l yX10_two cX10_two 3 (some .int) 2 G (TY cs) [.ref h, .int a1, .int a2] [(xc0 cs h q), (xc12 cs h q), (xc13 cs h q)] (-2) := by
  refine mkP (Qc := QPi (-2)) (by decide) (by simp [lg_sl, Value.category]) ?_
  intro p e s m args below meth c ls hx hb hml hr hlk hown ht hK hP hS hl
  have hl : lv_has ls 3 [(0, .ref h), (1, .int a1), (2, .int a2)] := hl
  refine lv_aload_n hx hb dX10_two_0 rfl (lv_at hl 0 rfl) ?_
  refine lv_iload_n hx hb dX10_two_1 rfl (lv_at hl 1 rfl) ?_
  refine behI (runVP (As := [.int a1]) (rest := []) ⟨hx, hb, hml, hown, ht⟩ (pX10_isRoom l G cs h q a1) okV_RX10_120 ⟨by decide, by decide⟩ hK hP [0, 1, 2] rfl 0 rfl rfl hl.1 rfl (Nat.le_of_ble_eq_true rfl) dX10_two_2 ⟨by decide, by decide⟩) hP hS (fun _ h => h) (fun H locs hP hS => ?_)
  refine lv_if_eq (tgt := 16) hx hb dX10_two_5 (by decide) (fun c2 => ?_) (fun c1 => False.elim (by revert c1; decide))
  refine lv_bipush (v := (-2)) hx hb dX10_two_16 (by decide) ?_
  exact retPi hx hb hr hlk hS dX10_two_18 (rfl)

set_option maxRecDepth 100000 in
set_option maxHeartbeats 4000000 in
theorem pX10_way (l : Launch) (G : va_G) (cs : Nat → ClassId) (h : Nat) (q : Nat → Nat) (a1 : Int32) (a2 : Int32) (a3 : Int32) (a4 : Int32) : PureI l yX10_way cX10_way 5 (some .int) 2 G (TY cs) [.ref h, .int a1, .int a2, .int a3, .int a4] [(xc0 cs h q), (xc12 cs h q), (xc13 cs h q)] (-2) := by
  refine mkP (Qc := QPi (-2)) (by decide) (by simp [lg_sl, Value.category]) ?_
  intro p e s m args below meth c ls hx hb hml hr hlk hown ht hK hP hS hl
  have hl : lv_has ls 5 [(0, .ref h), (1, .int a1), (2, .int a2), (3, .int a3), (4, .int a4)] := hl
  refine lv_aload_n hx hb dX10_way_0 rfl (lv_at hl 0 rfl) ?_
  refine lv_iload_n hx hb dX10_way_1 rfl (lv_at hl 1 rfl) ?_
  refine behI (runVP (As := [.int a1]) (rest := []) ⟨hx, hb, hml, hown, ht⟩ (pX10_isRoom l G cs h q a1) okV_RX10_120 ⟨by decide, by decide⟩ hK hP [0, 1, 2] rfl 0 rfl rfl hl.1 rfl (Nat.le_of_ble_eq_true rfl) dX10_way_2 ⟨by decide, by decide⟩) hP hS (fun _ h => h) (fun H locs hP hS => ?_)
  refine lv_if_eq (tgt := 25) hx hb dX10_way_5 (by decide) (fun c2 => ?_) (fun c1 => False.elim (by revert c1; decide))
  refine lv_bipush (v := (-2)) hx hb dX10_way_25 (by decide) ?_
  exact retPi hx hb hr hlk hS dX10_way_27 (rfl)

set_option maxRecDepth 100000 in
set_option maxHeartbeats 4000000 in
theorem pX10_slips (l : Launch) (G : va_G) (cs : Nat → ClassId) (h : Nat) (q : Nat → Nat) (a1 : Int32) (a2 : Int32) : PureI l yX10_slips cX10_slips 9 (some .int) 3 G (TY cs) [.ref h, .int a1, .int a2] [(xc0 cs h q), (xc12 cs h q), (xc13 cs h q)] (-2) := by
  refine mkP (Qc := QPi (-2)) (by decide) (by simp [lg_sl, Value.category]) ?_
  intro p e s m args below meth c ls hx hb hml hr hlk hown ht hK hP hS hl
  have hl : lv_has ls 9 [(0, .ref h), (1, .int a1), (2, .int a2)] := hl
  refine lv_aload_n hx hb dX10_slips_0 rfl (lv_at hl 0 rfl) ?_
  refine lv_iload_n hx hb dX10_slips_1 rfl (lv_at hl 1 rfl) ?_
  refine lv_aload_n hx hb dX10_slips_2 rfl (lv_at hl 0 rfl) ?_
  refine lv_iload_n hx hb dX10_slips_3 rfl (lv_at hl 2 rfl) ?_
  refine behI (runVP (As := [.int a2]) (rest := [.int a1, .ref h]) ⟨hx, hb, hml, hown, ht⟩ (pX10_isRoom l G cs h q a2) okV_RX10_120 ⟨by decide, by decide⟩ hK hP [0, 1, 2] rfl 0 rfl rfl hl.1 rfl (Nat.le_of_ble_eq_true rfl) dX10_slips_4 ⟨by decide, by decide⟩) hP hS (fun _ h => h) (fun H locs hP hS => ?_)
  refine behI (runVP (As := [.int a1, .int 0]) (rest := []) ⟨hx, hb, hml, hown, ht⟩ (pX10_askRound l G cs h q a1 0) okV_RX10_186 ⟨by decide, by decide⟩ hK hP [0, 1, 2] rfl 0 rfl rfl hl.1 rfl (Nat.le_of_ble_eq_true rfl) dX10_slips_7 ⟨by decide, by decide⟩) hP hS (fun _ h => h) (fun H locs hP hS => ?_)
  refine lv_istore_n (lv' := [(3, .int (-2)), (0, .ref h), (1, .int a1), (2, .int a2)]) hx hb dX10_slips_10 rfl hl (by decide) rfl (fun ls hl => ?_)
  refine lv_iload_n hx hb dX10_slips_11 rfl (lv_at hl 0 rfl) ?_
  refine lv_if_eq (tgt := 17) hx hb dX10_slips_12 (by decide) (fun c1 => False.elim (by revert c1; decide)) (fun c2 => ?_)
  refine lv_iload_n hx hb dX10_slips_15 rfl (lv_at hl 0 rfl) ?_
  exact retPi hx hb hr hlk hS dX10_slips_16 (rfl)

set_option maxRecDepth 100000 in
set_option maxHeartbeats 4000000 in
theorem pX10_boys (l : Launch) (G : va_G) (cs : Nat → ClassId) (h : Nat) (q : Nat → Nat)  : PureI l yX10_boys cX10_boys 2 (some .int) 0 G (TY cs) [.ref h] [(xc0 cs h q), (xc12 cs h q), (xc13 cs h q)] (-2) := by
  refine mkP (Qc := QPi (-2)) (by decide) (by simp [lg_sl, Value.category]) ?_
  intro p e s m args below meth c ls hx hb hml hr hlk hown ht hK hP hS hl
  have hl : lv_has ls 2 [(0, .ref h)] := hl
  refine lv_aload_n hx hb dX10_boys_0 rfl (lv_at hl 0 rfl) ?_
  refine getF hx hb ht hown hK hP iTX10 0 3 rfl rfl (by decide) fl_RX10_31 rfl dX10_boys_1 ?_
  refine getF hx hb ht hown hK hP iTX8 1 0 rfl rfl (by decide) fl_RX10_98 rfl dX10_boys_4 ?_
  refine getF hx hb ht hown hK hP iTX3 2 5 rfl rfl (by decide) fl_RX10_159 rfl dX10_boys_7 ?_
  refine lv_iconst (v := 1) hx hb dX10_boys_10 (by decide) ?_
  refine lv_icmp_ge (tgt := 17) hx hb dX10_boys_11 (by decide) (fun c1 => False.elim (by revert c1; decide)) (fun c2 => ?_)
  refine lv_bipush (v := (-2)) hx hb dX10_boys_14 (by decide) ?_
  exact retPi hx hb hr hlk hS dX10_boys_16 (rfl)

set_option maxRecDepth 100000 in
set_option maxHeartbeats 4000000 in
theorem pX10_pairs (l : Launch) (G : va_G) (cs : Nat → ClassId) (h : Nat) (q : Nat → Nat)  : PureI l yX10_pairs cX10_pairs 1 (some .int) 0 G (TY cs) [.ref h] [(xc0 cs h q), (xc12 cs h q), (xc13 cs h q)] (-2) := by
  refine mkP (Qc := QPi (-2)) (by decide) (by simp [lg_sl, Value.category]) ?_
  intro p e s m args below meth c ls hx hb hml hr hlk hown ht hK hP hS hl
  have hl : lv_has ls 1 [(0, .ref h)] := hl
  refine lv_aload_n hx hb dX10_pairs_0 rfl (lv_at hl 0 rfl) ?_
  refine getF hx hb ht hown hK hP iTX10 0 3 rfl rfl (by decide) fl_RX10_31 rfl dX10_pairs_1 ?_
  refine getF hx hb ht hown hK hP iTX8 1 0 rfl rfl (by decide) fl_RX10_98 rfl dX10_pairs_4 ?_
  refine getF hx hb ht hown hK hP iTX3 2 5 rfl rfl (by decide) fl_RX10_159 rfl dX10_pairs_7 ?_
  refine lv_iconst (v := 1) hx hb dX10_pairs_10 (by decide) ?_
  refine lv_icmp_ge (tgt := 19) hx hb dX10_pairs_11 (by decide) (fun c1 => False.elim (by revert c1; decide)) (fun c2 => ?_)
  refine lv_bipush (v := (-2)) hx hb dX10_pairs_14 (by decide) ?_
  refine lv_goto (tgt := 33) hx hb dX10_pairs_16 (by decide) ?_
  exact retPi hx hb hr hlk hS dX10_pairs_33 (rfl)

set_option maxRecDepth 100000 in
set_option maxHeartbeats 4000000 in
theorem pX10_which (l : Launch) (G : va_G) (cs : Nat → ClassId) (h : Nat) (q : Nat → Nat) (a1 : Int32) : PureI l yX10_which cX10_which 2 (some .int) 1 G (TY cs) [.ref h, .int a1] [(xc0 cs h q), (xc12 cs h q), (xc13 cs h q)] (-2) := by
  refine mkP (Qc := QPi (-2)) (by decide) (by simp [lg_sl, Value.category]) ?_
  intro p e s m args below meth c ls hx hb hml hr hlk hown ht hK hP hS hl
  have hl : lv_has ls 2 [(0, .ref h), (1, .int a1)] := hl
  refine lv_aload_n hx hb dX10_which_0 rfl (lv_at hl 0 rfl) ?_
  refine lv_iload_n hx hb dX10_which_1 rfl (lv_at hl 1 rfl) ?_
  refine behI (runVP (As := [.int a1]) (rest := []) ⟨hx, hb, hml, hown, ht⟩ (pX10_isSet l G cs h q a1) okV_RX10_267 ⟨by decide, by decide⟩ hK hP [0, 1, 2] rfl 0 rfl rfl hl.1 rfl (Nat.le_of_ble_eq_true rfl) dX10_which_2 ⟨by decide, by decide⟩) hP hS (fun _ h => h) (fun H locs hP hS => ?_)
  refine lv_if_eq (tgt := 26) hx hb dX10_which_5 (by decide) (fun c2 => ?_) (fun c1 => False.elim (by revert c1; decide))
  refine lv_bipush (v := (-2)) hx hb dX10_which_26 (by decide) ?_
  exact retPi hx hb hr hlk hS dX10_which_28 (rfl)

set_option maxRecDepth 100000 in
set_option maxHeartbeats 4000000 in
theorem pX10_question (l : Launch) (G : va_G) (cs : Nat → ClassId) (h : Nat) (q : Nat → Nat) (a1 : Int32) : PureI l yX10_question cX10_question 2 (some .int) 1 G (TY cs) [.ref h, .int a1] [(xc0 cs h q), (xc12 cs h q), (xc13 cs h q)] (-2) := by
  refine mkP (Qc := QPi (-2)) (by decide) (by simp [lg_sl, Value.category]) ?_
  intro p e s m args below meth c ls hx hb hml hr hlk hown ht hK hP hS hl
  have hl : lv_has ls 2 [(0, .ref h), (1, .int a1)] := hl
  refine lv_aload_n hx hb dX10_question_0 rfl (lv_at hl 0 rfl) ?_
  refine lv_iload_n hx hb dX10_question_1 rfl (lv_at hl 1 rfl) ?_
  refine behI (runVP (As := [.int a1]) (rest := []) ⟨hx, hb, hml, hown, ht⟩ (pX10_isSet l G cs h q a1) okV_RX10_267 ⟨by decide, by decide⟩ hK hP [0, 1, 2] rfl 0 rfl rfl hl.1 rfl (Nat.le_of_ble_eq_true rfl) dX10_question_2 ⟨by decide, by decide⟩) hP hS (fun _ h => h) (fun H locs hP hS => ?_)
  refine lv_if_eq (tgt := 26) hx hb dX10_question_5 (by decide) (fun c2 => ?_) (fun c1 => False.elim (by revert c1; decide))
  refine lv_bipush (v := (-2)) hx hb dX10_question_26 (by decide) ?_
  exact retPi hx hb hr hlk hS dX10_question_28 (rfl)

set_option maxRecDepth 100000 in
set_option maxHeartbeats 4000000 in
theorem pX10_yes (l : Launch) (G : va_G) (cs : Nat → ClassId) (h : Nat) (q : Nat → Nat) (a1 : Int32) (a2 : Int32) : PureI l yX10_yes cX10_yes 3 (some .int) 1 G (TY cs) [.ref h, .int a1, .int a2] [(xc0 cs h q), (xc12 cs h q), (xc13 cs h q)] (-2) := by
  refine mkP (Qc := QPi (-2)) (by decide) (by simp [lg_sl, Value.category]) ?_
  intro p e s m args below meth c ls hx hb hml hr hlk hown ht hK hP hS hl
  have hl : lv_has ls 3 [(0, .ref h), (1, .int a1), (2, .int a2)] := hl
  refine lv_aload_n hx hb dX10_yes_0 rfl (lv_at hl 0 rfl) ?_
  refine lv_iload_n hx hb dX10_yes_1 rfl (lv_at hl 1 rfl) ?_
  refine behI (runVP (As := [.int a1]) (rest := []) ⟨hx, hb, hml, hown, ht⟩ (pX10_isSet l G cs h q a1) okV_RX10_267 ⟨by decide, by decide⟩ hK hP [0, 1, 2] rfl 0 rfl rfl hl.1 rfl (Nat.le_of_ble_eq_true rfl) dX10_yes_2 ⟨by decide, by decide⟩) hP hS (fun _ h => h) (fun H locs hP hS => ?_)
  refine lv_if_eq (tgt := 18) hx hb dX10_yes_5 (by decide) (fun c2 => ?_) (fun c1 => False.elim (by revert c1; decide))
  refine lv_bipush (v := (-2)) hx hb dX10_yes_18 (by decide) ?_
  exact retPi hx hb hr hlk hS dX10_yes_20 (rfl)

set_option maxRecDepth 100000 in
set_option maxHeartbeats 4000000 in
theorem pX10_list (l : Launch) (G : va_G) (cs : Nat → ClassId) (h : Nat) (q : Nat → Nat) (a1 : Int32) : PureI l yX10_list cX10_list 2 (some .int) 1 G (TY cs) [.ref h, .int a1] [(xc0 cs h q), (xc12 cs h q), (xc13 cs h q)] (-2) := by
  refine mkP (Qc := QPi (-2)) (by decide) (by simp [lg_sl, Value.category]) ?_
  intro p e s m args below meth c ls hx hb hml hr hlk hown ht hK hP hS hl
  have hl : lv_has ls 2 [(0, .ref h), (1, .int a1)] := hl
  refine lv_aload_n hx hb dX10_list_0 rfl (lv_at hl 0 rfl) ?_
  refine lv_iload_n hx hb dX10_list_1 rfl (lv_at hl 1 rfl) ?_
  refine behI (runVP (As := [.int a1]) (rest := []) ⟨hx, hb, hml, hown, ht⟩ (pX10_isSet l G cs h q a1) okV_RX10_267 ⟨by decide, by decide⟩ hK hP [0, 1, 2] rfl 0 rfl rfl hl.1 rfl (Nat.le_of_ble_eq_true rfl) dX10_list_2 ⟨by decide, by decide⟩) hP hS (fun _ h => h) (fun H locs hP hS => ?_)
  refine lv_if_eq (tgt := 26) hx hb dX10_list_5 (by decide) (fun c2 => ?_) (fun c1 => False.elim (by revert c1; decide))
  refine lv_bipush (v := (-2)) hx hb dX10_list_26 (by decide) ?_
  exact retPi hx hb hr hlk hS dX10_list_28 (rfl)

set_option maxRecDepth 100000 in
set_option maxHeartbeats 4000000 in
theorem pX10_meant (l : Launch) (G : va_G) (cs : Nat → ClassId) (h : Nat) (q : Nat → Nat) (a1 : Int32) (a2 : Int32) (a3 : Int32) : PureI l yX10_meant cX10_meant 6 (some .int) 1 G (TY cs) [.ref h, .int a1, .int a2, .int a3] [(xc0 cs h q), (xc12 cs h q), (xc13 cs h q)] (-2) := by
  refine mkP (Qc := QPi (-2)) (by decide) (by simp [lg_sl, Value.category]) ?_
  intro p e s m args below meth c ls hx hb hml hr hlk hown ht hK hP hS hl
  have hl : lv_has ls 6 [(0, .ref h), (1, .int a1), (2, .int a2), (3, .int a3)] := hl
  refine lv_aload_n hx hb dX10_meant_0 rfl (lv_at hl 0 rfl) ?_
  refine lv_iload_n hx hb dX10_meant_1 rfl (lv_at hl 1 rfl) ?_
  refine behI (runVP (As := [.int a1]) (rest := []) ⟨hx, hb, hml, hown, ht⟩ (pX10_isSet l G cs h q a1) okV_RX10_267 ⟨by decide, by decide⟩ hK hP [0, 1, 2] rfl 0 rfl rfl hl.1 rfl (Nat.le_of_ble_eq_true rfl) dX10_meant_2 ⟨by decide, by decide⟩) hP hS (fun _ h => h) (fun H locs hP hS => ?_)
  refine lv_if_eq (tgt := 33) hx hb dX10_meant_5 (by decide) (fun c2 => ?_) (fun c1 => False.elim (by revert c1; decide))
  refine lv_bipush (v := (-2)) hx hb dX10_meant_33 (by decide) ?_
  exact retPi hx hb hr hlk hS dX10_meant_35 (rfl)

set_option maxRecDepth 100000 in
set_option maxHeartbeats 4000000 in
theorem pX10_read (l : Launch) (G : va_G) (cs : Nat → ClassId) (h : Nat) (q : Nat → Nat) (a1 : Int32) (a2 : Int32) (a3 : Int32) : PureL l yX10_read cX10_read 4 (some .long) 1 G (TY cs) [.ref h, .int a1, .int a2, .int a3] [(xc0 cs h q), (xc12 cs h q), (xc13 cs h q)] (-2) := by
  refine mkP (Qc := QPl (-2)) (by decide) (by simp [lg_sl, Value.category]) ?_
  intro p e s m args below meth c ls hx hb hml hr hlk hown ht hK hP hS hl
  have hl : lv_has ls 4 [(0, .ref h), (1, .int a1), (2, .int a2), (3, .int a3)] := hl
  refine lv_aload_n hx hb dX10_read_0 rfl (lv_at hl 0 rfl) ?_
  refine lv_iload_n hx hb dX10_read_1 rfl (lv_at hl 1 rfl) ?_
  refine behI (runVP (As := [.int a1]) (rest := []) ⟨hx, hb, hml, hown, ht⟩ (pX10_isMan l G cs h q a1) okV_RX10_128 ⟨by decide, by decide⟩ hK hP [0, 1, 2] rfl 0 rfl rfl hl.1 rfl (Nat.le_of_ble_eq_true rfl) dX10_read_2 ⟨by decide, by decide⟩) hP hS (fun _ h => h) (fun H locs hP hS => ?_)
  refine lv_if_eq (tgt := 25) hx hb dX10_read_5 (by decide) (fun c2 => ?_) (fun c1 => False.elim (by revert c1; decide))
  refine lv_ldc2 hx hb hown (ht _ kl_RX10_289) dX10_read_25 ?_
  exact retPl hx hb hr hlk hS dX10_read_28 (rfl)
end
section
set_option maxRecDepth 100000 in
set_option maxHeartbeats 4000000 in
theorem pX10_guess (l : Launch) (G : va_G) (cs : Nat → ClassId) (h : Nat) (q : Nat → Nat) (a1 : Int32) : PureI l yX10_guess cX10_guess 8 (some .int) 1 G (TY cs) [.ref h, .int a1] [(xc0 cs h q), (xc12 cs h q), (xc13 cs h q)] (-2) := by
  refine mkP (Qc := QPi (-2)) (by decide) (by simp [lg_sl, Value.category]) ?_
  intro p e s m args below meth c ls hx hb hml hr hlk hown ht hK hP hS hl
  have hl : lv_has ls 8 [(0, .ref h), (1, .int a1)] := hl
  refine lv_aload_n hx hb dX10_guess_0 rfl (lv_at hl 0 rfl) ?_
  refine lv_iload_n hx hb dX10_guess_1 rfl (lv_at hl 1 rfl) ?_
  refine behI (runVP (As := [.int a1]) (rest := []) ⟨hx, hb, hml, hown, ht⟩ (pX10_isMan l G cs h q a1) okV_RX10_128 ⟨by decide, by decide⟩ hK hP [0, 1, 2] rfl 0 rfl rfl hl.1 rfl (Nat.le_of_ble_eq_true rfl) dX10_guess_2 ⟨by decide, by decide⟩) hP hS (fun _ h => h) (fun H locs hP hS => ?_)
  refine lv_if_ne (tgt := 11) hx hb dX10_guess_5 (by decide) (fun c1 => False.elim (by revert c1; decide)) (fun c2 => ?_)
  refine lv_bipush (v := (-2)) hx hb dX10_guess_8 (by decide) ?_
  exact retPi hx hb hr hlk hS dX10_guess_10 (rfl)

set_option maxRecDepth 100000 in
set_option maxHeartbeats 4000000 in
theorem pX10_right (l : Launch) (G : va_G) (cs : Nat → ClassId) (h : Nat) (q : Nat → Nat) (a1 : Int32) : PureL l yX10_right cX10_right 7 (some .long) 0 G (TY cs) [.ref h, .int a1] [(xc0 cs h q), (xc12 cs h q), (xc13 cs h q)] (-2) := by
  refine mkP (Qc := QPl (-2)) (by decide) (by simp [lg_sl, Value.category]) ?_
  intro p e s m args below meth c ls hx hb hml hr hlk hown ht hK hP hS hl
  have hl : lv_has ls 7 [(0, .ref h), (1, .int a1)] := hl
  refine lv_aload_n hx hb dX10_right_0 rfl (lv_at hl 0 rfl) ?_
  refine getF hx hb ht hown hK hP iTX10 0 3 rfl rfl (by decide) fl_RX10_31 rfl dX10_right_1 ?_
  refine getF hx hb ht hown hK hP iTX8 1 0 rfl rfl (by decide) fl_RX10_98 rfl dX10_right_4 ?_
  refine getF hx hb ht hown hK hP iTX3 2 6 rfl rfl (by decide) fl_RX10_283 rfl dX10_right_7 ?_
  refine lv_iconst (v := 1) hx hb dX10_right_10 (by decide) ?_
  refine lv_icmp_lt (tgt := 23) hx hb dX10_right_11 (by decide) (fun c2 => ?_) (fun c1 => False.elim (by revert c1; decide))
  refine lv_ldc2 hx hb hown (ht _ kl_RX10_289) dX10_right_23 ?_
  exact retPl hx hb hr hlk hS dX10_right_26 (rfl)

set_option maxRecDepth 100000 in
set_option maxHeartbeats 4000000 in
theorem pX10_habit (l : Launch) (G : va_G) (cs : Nat → ClassId) (h : Nat) (q : Nat → Nat) (a1 : Int32) : PureI l yX10_habit cX10_habit 3 (some .int) 3 G (TY cs) [.ref h, .int a1] [(xc0 cs h q), (xc12 cs h q), (xc13 cs h q)] (-2) := by
  refine mkP (Qc := QPi (-2)) (by decide) (by simp [lg_sl, Value.category]) ?_
  intro p e s m args below meth c ls hx hb hml hr hlk hown ht hK hP hS hl
  have hl : lv_has ls 3 [(0, .ref h), (1, .int a1)] := hl
  refine lv_aload_n hx hb dX10_habit_0 rfl (lv_at hl 0 rfl) ?_
  refine lv_iload_n hx hb dX10_habit_1 rfl (lv_at hl 1 rfl) ?_
  refine lv_iconst (v := 1) hx hb dX10_habit_2 (by decide) ?_
  refine behI (runVP (As := [.int a1, .int 1]) (rest := []) ⟨hx, hb, hml, hown, ht⟩ (pX10_askHabits l G cs h q a1 1) okV_RX10_299 ⟨by decide, by decide⟩ hK hP [0, 1, 2] rfl 0 rfl rfl hl.1 rfl (Nat.le_of_ble_eq_true rfl) dX10_habit_3 ⟨by decide, by decide⟩) hP hS (fun _ h => h) (fun H locs hP hS => ?_)
  refine lv_istore_n (lv' := [(2, .int (-2)), (0, .ref h), (1, .int a1)]) hx hb dX10_habit_6 rfl hl (by decide) rfl (fun ls hl => ?_)
  refine lv_iload_n hx hb dX10_habit_7 rfl (lv_at hl 0 rfl) ?_
  refine lv_if_eq (tgt := 13) hx hb dX10_habit_8 (by decide) (fun c1 => False.elim (by revert c1; decide)) (fun c2 => ?_)
  refine lv_iload_n hx hb dX10_habit_11 rfl (lv_at hl 0 rfl) ?_
  exact retPi hx hb hr hlk hS dX10_habit_12 (rfl)

set_option maxRecDepth 100000 in
set_option maxHeartbeats 4000000 in
theorem pX10_follows (l : Launch) (G : va_G) (cs : Nat → ClassId) (h : Nat) (q : Nat → Nat) (a1 : Int32) (a2 : Int32) : PureI l yX10_follows cX10_follows 4 (some .int) 3 G (TY cs) [.ref h, .int a1, .int a2] [(xc0 cs h q), (xc12 cs h q), (xc13 cs h q)] (-2) := by
  refine mkP (Qc := QPi (-2)) (by decide) (by simp [lg_sl, Value.category]) ?_
  intro p e s m args below meth c ls hx hb hml hr hlk hown ht hK hP hS hl
  have hl : lv_has ls 4 [(0, .ref h), (1, .int a1), (2, .int a2)] := hl
  refine lv_aload_n hx hb dX10_follows_0 rfl (lv_at hl 0 rfl) ?_
  refine lv_iload_n hx hb dX10_follows_1 rfl (lv_at hl 1 rfl) ?_
  refine lv_aload_n hx hb dX10_follows_2 rfl (lv_at hl 0 rfl) ?_
  refine lv_iload_n hx hb dX10_follows_3 rfl (lv_at hl 2 rfl) ?_
  refine behI (runVP (As := [.int a2]) (rest := [.int a1, .ref h]) ⟨hx, hb, hml, hown, ht⟩ (pX10_isRoom l G cs h q a2) okV_RX10_120 ⟨by decide, by decide⟩ hK hP [0, 1, 2] rfl 0 rfl rfl hl.1 rfl (Nat.le_of_ble_eq_true rfl) dX10_follows_4 ⟨by decide, by decide⟩) hP hS (fun _ h => h) (fun H locs hP hS => ?_)
  refine behI (runVP (As := [.int a1, .int 0]) (rest := []) ⟨hx, hb, hml, hown, ht⟩ (pX10_askHabits l G cs h q a1 0) okV_RX10_299 ⟨by decide, by decide⟩ hK hP [0, 1, 2] rfl 0 rfl rfl hl.1 rfl (Nat.le_of_ble_eq_true rfl) dX10_follows_7 ⟨by decide, by decide⟩) hP hS (fun _ h => h) (fun H locs hP hS => ?_)
  refine lv_istore_n (lv' := [(3, .int (-2)), (0, .ref h), (1, .int a1), (2, .int a2)]) hx hb dX10_follows_10 rfl hl (by decide) rfl (fun ls hl => ?_)
  refine lv_iload_n hx hb dX10_follows_11 rfl (lv_at hl 0 rfl) ?_
  refine lv_if_eq (tgt := 17) hx hb dX10_follows_12 (by decide) (fun c1 => False.elim (by revert c1; decide)) (fun c2 => ?_)
  refine lv_iload_n hx hb dX10_follows_15 rfl (lv_at hl 0 rfl) ?_
  exact retPi hx hb hr hlk hS dX10_follows_16 (rfl)

set_option maxRecDepth 100000 in
set_option maxHeartbeats 4000000 in
theorem pX10_period (l : Launch) (G : va_G) (cs : Nat → ClassId) (h : Nat) (q : Nat → Nat) (a1 : Int32) : PureI l yX10_period cX10_period 5 (some .int) 3 G (TY cs) [.ref h, .int a1] [(xc0 cs h q), (xc12 cs h q), (xc13 cs h q)] (-2) := by
  refine mkP (Qc := QPi (-2)) (by decide) (by simp [lg_sl, Value.category]) ?_
  intro p e s m args below meth c ls hx hb hml hr hlk hown ht hK hP hS hl
  have hl : lv_has ls 5 [(0, .ref h), (1, .int a1)] := hl
  refine lv_aload_n hx hb dX10_period_0 rfl (lv_at hl 0 rfl) ?_
  refine lv_iload_n hx hb dX10_period_1 rfl (lv_at hl 1 rfl) ?_
  refine lv_iconst (v := 1) hx hb dX10_period_2 (by decide) ?_
  refine behI (runVP (As := [.int a1, .int 1]) (rest := []) ⟨hx, hb, hml, hown, ht⟩ (pX10_askHabits l G cs h q a1 1) okV_RX10_299 ⟨by decide, by decide⟩ hK hP [0, 1, 2] rfl 0 rfl rfl hl.1 rfl (Nat.le_of_ble_eq_true rfl) dX10_period_3 ⟨by decide, by decide⟩) hP hS (fun _ h => h) (fun H locs hP hS => ?_)
  refine lv_istore_n (lv' := [(2, .int (-2)), (0, .ref h), (1, .int a1)]) hx hb dX10_period_6 rfl hl (by decide) rfl (fun ls hl => ?_)
  refine lv_iload_n hx hb dX10_period_7 rfl (lv_at hl 0 rfl) ?_
  refine lv_if_eq (tgt := 13) hx hb dX10_period_8 (by decide) (fun c1 => False.elim (by revert c1; decide)) (fun c2 => ?_)
  refine lv_iload_n hx hb dX10_period_11 rfl (lv_at hl 0 rfl) ?_
  exact retPi hx hb hr hlk hS dX10_period_12 (rfl)

set_option maxRecDepth 100000 in
set_option maxHeartbeats 4000000 in
theorem pX10_drawn (l : Launch) (G : va_G) (cs : Nat → ClassId) (h : Nat) (q : Nat → Nat) (a1 : Int32) (a2 : Int32) (a3 : Int32) : PureI l yX10_drawn cX10_drawn 5 (some .int) 3 G (TY cs) [.ref h, .int a1, .int a2, .int a3] [(xc0 cs h q), (xc12 cs h q), (xc13 cs h q)] (-2) := by
  refine mkP (Qc := QPi (-2)) (by decide) (by simp [lg_sl, Value.category]) ?_
  intro p e s m args below meth c ls hx hb hml hr hlk hown ht hK hP hS hl
  have hl : lv_has ls 5 [(0, .ref h), (1, .int a1), (2, .int a2), (3, .int a3)] := hl
  refine lv_aload_n hx hb dX10_drawn_0 rfl (lv_at hl 0 rfl) ?_
  refine lv_iload_n hx hb dX10_drawn_1 rfl (lv_at hl 2 rfl) ?_
  refine lv_aload_n hx hb dX10_drawn_2 rfl (lv_at hl 0 rfl) ?_
  refine lv_iload_n hx hb dX10_drawn_3 rfl (lv_at hl 1 rfl) ?_
  refine behI (runVP (As := [.int a1]) (rest := [.int a2, .ref h]) ⟨hx, hb, hml, hown, ht⟩ (pX10_isSeed l G cs h q a1) okV_RX10_308 ⟨by decide, by decide⟩ hK hP [] rfl 0 rfl rfl hl.1 rfl (Nat.le_of_ble_eq_true rfl) dX10_drawn_4 ⟨by decide, by decide⟩) hP hS (fun _ h => h) (fun H locs hP hS => ?_)
  refine lv_if_eq (tgt := 23) hx hb dX10_drawn_7 (by decide) (fun c1 => ?_) (fun c1 => ?_)
  · refine lv_iconst (v := 0) hx hb dX10_drawn_23 (by decide) ?_
    refine behI (runVP (As := [.int a2, .int 0]) (rest := []) ⟨hx, hb, hml, hown, ht⟩ (pX10_askRound l G cs h q a2 0) okV_RX10_186 ⟨by decide, by decide⟩ hK hP [0, 1, 2] rfl 0 rfl rfl hl.1 rfl (Nat.le_of_ble_eq_true rfl) dX10_drawn_24 ⟨by decide, by decide⟩) hP hS (fun _ h => h) (fun H locs hP hS => ?_)
    refine lv_istore (lv' := [(4, .int (-2)), (0, .ref h), (1, .int a1), (2, .int a2), (3, .int a3)]) hx hb dX10_drawn_27 hl (by decide) rfl (fun ls hl => ?_)
    refine lv_iload hx hb dX10_drawn_29 (lv_at hl 0 rfl) ?_
    refine lv_if_eq (tgt := 37) hx hb dX10_drawn_31 (by decide) (fun c2 => False.elim (by revert c2; decide)) (fun c3 => ?_)
    refine lv_iload hx hb dX10_drawn_34 (lv_at hl 0 rfl) ?_
    exact retPi hx hb hr hlk hS dX10_drawn_36 (rfl)
  · refine lv_iload_n hx hb dX10_drawn_10 rfl (lv_at hl 3 rfl) ?_
    refine lv_if_lt (tgt := 23) hx hb dX10_drawn_11 (by decide) (fun c4 => ?_) (fun c4 => ?_)
    · refine lv_iconst (v := 0) hx hb dX10_drawn_23 (by decide) ?_
      refine behI (runVP (As := [.int a2, .int 0]) (rest := []) ⟨hx, hb, hml, hown, ht⟩ (pX10_askRound l G cs h q a2 0) okV_RX10_186 ⟨by decide, by decide⟩ hK hP [0, 1, 2] rfl 0 rfl rfl hl.1 rfl (Nat.le_of_ble_eq_true rfl) dX10_drawn_24 ⟨by decide, by decide⟩) hP hS (fun _ h => h) (fun H locs hP hS => ?_)
      refine lv_istore (lv' := [(4, .int (-2)), (0, .ref h), (1, .int a1), (2, .int a2), (3, .int a3)]) hx hb dX10_drawn_27 hl (by decide) rfl (fun ls hl => ?_)
      refine lv_iload hx hb dX10_drawn_29 (lv_at hl 0 rfl) ?_
      refine lv_if_eq (tgt := 37) hx hb dX10_drawn_31 (by decide) (fun c5 => False.elim (by revert c5; decide)) (fun c6 => ?_)
      refine lv_iload hx hb dX10_drawn_34 (lv_at hl 0 rfl) ?_
      exact retPi hx hb hr hlk hS dX10_drawn_36 (rfl)
    · refine lv_iload_n hx hb dX10_drawn_14 rfl (lv_at hl 3 rfl) ?_
      refine lv_iconst (v := 1) hx hb dX10_drawn_15 (by decide) ?_
      refine lv_icmp_gt (tgt := 23) hx hb dX10_drawn_16 (by decide) (fun c7 => ?_) (fun c7 => ?_)
      · refine lv_iconst (v := 0) hx hb dX10_drawn_23 (by decide) ?_
        refine behI (runVP (As := [.int a2, .int 0]) (rest := []) ⟨hx, hb, hml, hown, ht⟩ (pX10_askRound l G cs h q a2 0) okV_RX10_186 ⟨by decide, by decide⟩ hK hP [0, 1, 2] rfl 0 rfl rfl hl.1 rfl (Nat.le_of_ble_eq_true rfl) dX10_drawn_24 ⟨by decide, by decide⟩) hP hS (fun _ h => h) (fun H locs hP hS => ?_)
        refine lv_istore (lv' := [(4, .int (-2)), (0, .ref h), (1, .int a1), (2, .int a2), (3, .int a3)]) hx hb dX10_drawn_27 hl (by decide) rfl (fun ls hl => ?_)
        refine lv_iload hx hb dX10_drawn_29 (lv_at hl 0 rfl) ?_
        refine lv_if_eq (tgt := 37) hx hb dX10_drawn_31 (by decide) (fun c8 => False.elim (by revert c8; decide)) (fun c9 => ?_)
        refine lv_iload hx hb dX10_drawn_34 (lv_at hl 0 rfl) ?_
        exact retPi hx hb hr hlk hS dX10_drawn_36 (rfl)
      · refine lv_iconst (v := 1) hx hb dX10_drawn_19 (by decide) ?_
        refine lv_goto (tgt := 24) hx hb dX10_drawn_20 (by decide) ?_
        refine behI (runVP (As := [.int a2, .int 1]) (rest := []) ⟨hx, hb, hml, hown, ht⟩ (pX10_askRound l G cs h q a2 1) okV_RX10_186 ⟨by decide, by decide⟩ hK hP [0, 1, 2] rfl 0 rfl rfl hl.1 rfl (Nat.le_of_ble_eq_true rfl) dX10_drawn_24 ⟨by decide, by decide⟩) hP hS (fun _ h => h) (fun H locs hP hS => ?_)
        refine lv_istore (lv' := [(4, .int (-2)), (0, .ref h), (1, .int a1), (2, .int a2), (3, .int a3)]) hx hb dX10_drawn_27 hl (by decide) rfl (fun ls hl => ?_)
        refine lv_iload hx hb dX10_drawn_29 (lv_at hl 0 rfl) ?_
        refine lv_if_eq (tgt := 37) hx hb dX10_drawn_31 (by decide) (fun c10 => False.elim (by revert c10; decide)) (fun c11 => ?_)
        refine lv_iload hx hb dX10_drawn_34 (lv_at hl 0 rfl) ?_
        exact retPi hx hb hr hlk hS dX10_drawn_36 (rfl)

set_option maxRecDepth 100000 in
set_option maxHeartbeats 4000000 in
theorem pX10_lot (l : Launch) (G : va_G) (cs : Nat → ClassId) (h : Nat) (q : Nat → Nat) (a1 : Int32) (a2 : Int32) (a3 : Int32) : PureI l yX10_lot cX10_lot 7 (some .int) 3 G (TY cs) [.ref h, .int a1, .int a2, .int a3] [(xc0 cs h q), (xc12 cs h q), (xc13 cs h q)] (-2) := by
  refine mkP (Qc := QPi (-2)) (by decide) (by simp [lg_sl, Value.category]) ?_
  intro p e s m args below meth c ls hx hb hml hr hlk hown ht hK hP hS hl
  have hl : lv_has ls 7 [(0, .ref h), (1, .int a1), (2, .int a2), (3, .int a3)] := hl
  refine lv_aload_n hx hb dX10_lot_0 rfl (lv_at hl 0 rfl) ?_
  refine lv_iload_n hx hb dX10_lot_1 rfl (lv_at hl 2 rfl) ?_
  refine lv_aload_n hx hb dX10_lot_2 rfl (lv_at hl 0 rfl) ?_
  refine lv_iload_n hx hb dX10_lot_3 rfl (lv_at hl 1 rfl) ?_
  refine behI (runVP (As := [.int a1]) (rest := [.int a2, .ref h]) ⟨hx, hb, hml, hown, ht⟩ (pX10_isSeed l G cs h q a1) okV_RX10_308 ⟨by decide, by decide⟩ hK hP [] rfl 0 rfl rfl hl.1 rfl (Nat.le_of_ble_eq_true rfl) dX10_lot_4 ⟨by decide, by decide⟩) hP hS (fun _ h => h) (fun H locs hP hS => ?_)
  refine lv_if_eq (tgt := 25) hx hb dX10_lot_7 (by decide) (fun c1 => ?_) (fun c1 => ?_)
  · refine lv_iconst (v := 0) hx hb dX10_lot_25 (by decide) ?_
    refine behI (runVP (As := [.int a2, .int 0]) (rest := []) ⟨hx, hb, hml, hown, ht⟩ (pX10_askRound l G cs h q a2 0) okV_RX10_186 ⟨by decide, by decide⟩ hK hP [0, 1, 2] rfl 0 rfl rfl hl.1 rfl (Nat.le_of_ble_eq_true rfl) dX10_lot_26 ⟨by decide, by decide⟩) hP hS (fun _ h => h) (fun H locs hP hS => ?_)
    refine lv_istore (lv' := [(4, .int (-2)), (0, .ref h), (1, .int a1), (2, .int a2), (3, .int a3)]) hx hb dX10_lot_29 hl (by decide) rfl (fun ls hl => ?_)
    refine lv_iload hx hb dX10_lot_31 (lv_at hl 0 rfl) ?_
    refine lv_if_eq (tgt := 39) hx hb dX10_lot_33 (by decide) (fun c2 => False.elim (by revert c2; decide)) (fun c3 => ?_)
    refine lv_iload hx hb dX10_lot_36 (lv_at hl 0 rfl) ?_
    exact retPi hx hb hr hlk hS dX10_lot_38 (rfl)
  · refine lv_iload_n hx hb dX10_lot_10 rfl (lv_at hl 3 rfl) ?_
    refine lv_iconst (v := 1) hx hb dX10_lot_11 (by decide) ?_
    refine lv_icmp_lt (tgt := 25) hx hb dX10_lot_12 (by decide) (fun c4 => ?_) (fun c4 => ?_)
    · refine lv_iconst (v := 0) hx hb dX10_lot_25 (by decide) ?_
      refine behI (runVP (As := [.int a2, .int 0]) (rest := []) ⟨hx, hb, hml, hown, ht⟩ (pX10_askRound l G cs h q a2 0) okV_RX10_186 ⟨by decide, by decide⟩ hK hP [0, 1, 2] rfl 0 rfl rfl hl.1 rfl (Nat.le_of_ble_eq_true rfl) dX10_lot_26 ⟨by decide, by decide⟩) hP hS (fun _ h => h) (fun H locs hP hS => ?_)
      refine lv_istore (lv' := [(4, .int (-2)), (0, .ref h), (1, .int a1), (2, .int a2), (3, .int a3)]) hx hb dX10_lot_29 hl (by decide) rfl (fun ls hl => ?_)
      refine lv_iload hx hb dX10_lot_31 (lv_at hl 0 rfl) ?_
      refine lv_if_eq (tgt := 39) hx hb dX10_lot_33 (by decide) (fun c5 => False.elim (by revert c5; decide)) (fun c6 => ?_)
      refine lv_iload hx hb dX10_lot_36 (lv_at hl 0 rfl) ?_
      exact retPi hx hb hr hlk hS dX10_lot_38 (rfl)
    · refine lv_iload_n hx hb dX10_lot_15 rfl (lv_at hl 3 rfl) ?_
      refine lv_bipush (v := 20) hx hb dX10_lot_16 (by decide) ?_
      refine lv_icmp_gt (tgt := 25) hx hb dX10_lot_18 (by decide) (fun c7 => ?_) (fun c7 => ?_)
      · refine lv_iconst (v := 0) hx hb dX10_lot_25 (by decide) ?_
        refine behI (runVP (As := [.int a2, .int 0]) (rest := []) ⟨hx, hb, hml, hown, ht⟩ (pX10_askRound l G cs h q a2 0) okV_RX10_186 ⟨by decide, by decide⟩ hK hP [0, 1, 2] rfl 0 rfl rfl hl.1 rfl (Nat.le_of_ble_eq_true rfl) dX10_lot_26 ⟨by decide, by decide⟩) hP hS (fun _ h => h) (fun H locs hP hS => ?_)
        refine lv_istore (lv' := [(4, .int (-2)), (0, .ref h), (1, .int a1), (2, .int a2), (3, .int a3)]) hx hb dX10_lot_29 hl (by decide) rfl (fun ls hl => ?_)
        refine lv_iload hx hb dX10_lot_31 (lv_at hl 0 rfl) ?_
        refine lv_if_eq (tgt := 39) hx hb dX10_lot_33 (by decide) (fun c8 => False.elim (by revert c8; decide)) (fun c9 => ?_)
        refine lv_iload hx hb dX10_lot_36 (lv_at hl 0 rfl) ?_
        exact retPi hx hb hr hlk hS dX10_lot_38 (rfl)
      · refine lv_iconst (v := 1) hx hb dX10_lot_21 (by decide) ?_
        refine lv_goto (tgt := 26) hx hb dX10_lot_22 (by decide) ?_
        refine behI (runVP (As := [.int a2, .int 1]) (rest := []) ⟨hx, hb, hml, hown, ht⟩ (pX10_askRound l G cs h q a2 1) okV_RX10_186 ⟨by decide, by decide⟩ hK hP [0, 1, 2] rfl 0 rfl rfl hl.1 rfl (Nat.le_of_ble_eq_true rfl) dX10_lot_26 ⟨by decide, by decide⟩) hP hS (fun _ h => h) (fun H locs hP hS => ?_)
        refine lv_istore (lv' := [(4, .int (-2)), (0, .ref h), (1, .int a1), (2, .int a2), (3, .int a3)]) hx hb dX10_lot_29 hl (by decide) rfl (fun ls hl => ?_)
        refine lv_iload hx hb dX10_lot_31 (lv_at hl 0 rfl) ?_
        refine lv_if_eq (tgt := 39) hx hb dX10_lot_33 (by decide) (fun c10 => False.elim (by revert c10; decide)) (fun c11 => ?_)
        refine lv_iload hx hb dX10_lot_36 (lv_at hl 0 rfl) ?_
        exact retPi hx hb hr hlk hS dX10_lot_38 (rfl)

set_option maxRecDepth 100000 in
set_option maxHeartbeats 4000000 in
theorem pX10_tell (l : Launch) (G : va_G) (cs : Nat → ClassId) (h : Nat) (q : Nat → Nat) (a1 : Int32) (a2 : Int32) (a3 : Int32) : PureI l yX10_tell cX10_tell 6 (some .int) 2 G (TY cs) [.ref h, .int a1, .int a2, .int a3] [(xc0 cs h q), (xc12 cs h q), (xc13 cs h q)] (-2) := by
  refine mkP (Qc := QPi (-2)) (by decide) (by simp [lg_sl, Value.category]) ?_
  intro p e s m args below meth c ls hx hb hml hr hlk hown ht hK hP hS hl
  have hl : lv_has ls 6 [(0, .ref h), (1, .int a1), (2, .int a2), (3, .int a3)] := hl
  refine lv_aload_n hx hb dX10_tell_0 rfl (lv_at hl 0 rfl) ?_
  refine lv_iload_n hx hb dX10_tell_1 rfl (lv_at hl 1 rfl) ?_
  refine behI (runVP (As := [.int a1]) (rest := []) ⟨hx, hb, hml, hown, ht⟩ (pX10_isRoom l G cs h q a1) okV_RX10_120 ⟨by decide, by decide⟩ hK hP [0, 1, 2] rfl 0 rfl rfl hl.1 rfl (Nat.le_of_ble_eq_true rfl) dX10_tell_2 ⟨by decide, by decide⟩) hP hS (fun _ h => h) (fun H locs hP hS => ?_)
  refine lv_if_eq (tgt := 29) hx hb dX10_tell_5 (by decide) (fun c2 => ?_) (fun c1 => False.elim (by revert c1; decide))
  refine lv_bipush (v := (-2)) hx hb dX10_tell_29 (by decide) ?_
  exact retPi hx hb hr hlk hS dX10_tell_31 (rfl)

set_option maxRecDepth 100000 in
set_option maxHeartbeats 4000000 in
theorem pX10_shut (l : Launch) (G : va_G) (cs : Nat → ClassId) (h : Nat) (q : Nat → Nat) (a1 : Int32) (a2 : Int32) (a3 : Int32) : PureI l yX10_shut cX10_shut 5 (some .int) 2 G (TY cs) [.ref h, .int a1, .int a2, .int a3] [(xc0 cs h q), (xc12 cs h q), (xc13 cs h q)] (-2) := by
  refine mkP (Qc := QPi (-2)) (by decide) (by simp [lg_sl, Value.category]) ?_
  intro p e s m args below meth c ls hx hb hml hr hlk hown ht hK hP hS hl
  have hl : lv_has ls 5 [(0, .ref h), (1, .int a1), (2, .int a2), (3, .int a3)] := hl
  refine lv_aload_n hx hb dX10_shut_0 rfl (lv_at hl 0 rfl) ?_
  refine lv_iload_n hx hb dX10_shut_1 rfl (lv_at hl 1 rfl) ?_
  refine behI (runVP (As := [.int a1]) (rest := []) ⟨hx, hb, hml, hown, ht⟩ (pX10_isRoom l G cs h q a1) okV_RX10_120 ⟨by decide, by decide⟩ hK hP [0, 1, 2] rfl 0 rfl rfl hl.1 rfl (Nat.le_of_ble_eq_true rfl) dX10_shut_2 ⟨by decide, by decide⟩) hP hS (fun _ h => h) (fun H locs hP hS => ?_)
  refine lv_if_eq (tgt := 30) hx hb dX10_shut_5 (by decide) (fun c2 => ?_) (fun c1 => False.elim (by revert c1; decide))
  refine lv_bipush (v := (-2)) hx hb dX10_shut_30 (by decide) ?_
  exact retPi hx hb hr hlk hS dX10_shut_32 (rfl)

set_option maxRecDepth 100000 in
set_option maxHeartbeats 4000000 in
theorem pX10_gain (l : Launch) (G : va_G) (cs : Nat → ClassId) (h : Nat) (q : Nat → Nat) (a1 : Int32) : PureI l yX10_gain cX10_gain 3 (some .int) 3 G (TY cs) [.ref h, .int a1] [(xc0 cs h q), (xc12 cs h q), (xc13 cs h q)] (-2000000) := by
  refine mkP (Qc := QPi (-2000000)) (by decide) (by simp [lg_sl, Value.category]) ?_
  intro p e s m args below meth c ls hx hb hml hr hlk hown ht hK hP hS hl
  have hl : lv_has ls 3 [(0, .ref h), (1, .int a1)] := hl
  refine lv_aload_n hx hb dX10_gain_0 rfl (lv_at hl 0 rfl) ?_
  refine lv_iload_n hx hb dX10_gain_1 rfl (lv_at hl 1 rfl) ?_
  refine lv_iconst (v := 1) hx hb dX10_gain_2 (by decide) ?_
  refine behI (runVP (As := [.int a1, .int 1]) (rest := []) ⟨hx, hb, hml, hown, ht⟩ (pX10_askRound l G cs h q a1 1) okV_RX10_186 ⟨by decide, by decide⟩ hK hP [0, 1, 2] rfl 0 rfl rfl hl.1 rfl (Nat.le_of_ble_eq_true rfl) dX10_gain_3 ⟨by decide, by decide⟩) hP hS (fun _ h => h) (fun H locs hP hS => ?_)
  refine lv_istore_n (lv' := [(2, .int (-2)), (0, .ref h), (1, .int a1)]) hx hb dX10_gain_6 rfl hl (by decide) rfl (fun ls hl => ?_)
  refine lv_iload_n hx hb dX10_gain_7 rfl (lv_at hl 0 rfl) ?_
  refine lv_if_eq (tgt := 16) hx hb dX10_gain_8 (by decide) (fun c1 => False.elim (by revert c1; decide)) (fun c2 => ?_)
  refine lv_iload_n hx hb dX10_gain_11 rfl (lv_at hl 0 rfl) ?_
  refine lv_ldc hx hb hown (ht _ ki_RX10_201) dX10_gain_12 ?_
  refine lv_imul hx hb dX10_gain_14 ?_
  refine lv_topi (fun v3 ev3 => ?_)
  obtain rfl : v3 = (-2000000) := ev3.trans (by decide)
  exact retPi hx hb hr hlk hS dX10_gain_15 (rfl)

set_option maxRecDepth 100000 in
set_option maxHeartbeats 4000000 in
theorem pX10_count (l : Launch) (G : va_G) (cs : Nat → ClassId) (h : Nat) (q : Nat → Nat) (a1 : Int32) : PureI l yX10_count cX10_count 2 (some .int) 1 G (TY cs) [.ref h, .int a1] [(xc0 cs h q), (xc2 cs h q), (xc12 cs h q), (xc13 cs h q), (xc53 cs h q), (xc54 cs h q), (xc56 cs h q), (xc58 cs h q), (xc60 cs h q)] (spk 8 a1 0 (-1)) := by
  rcases cs8 a1 with hn0 | hb0 | rfl | rfl | rfl | rfl | rfl | rfl | rfl | rfl
  · refine mkP (Qc := QPi (spk 8 a1 0 (-1))) (by decide) (by simp [lg_sl, Value.category]) ?_
    intro p e s m args below meth c ls hx hb hml hr hlk hown ht hK hP hS hl
    have hl : lv_has ls 2 [(0, .ref h), (1, .int a1)] := hl
    refine lv_iload_n hx hb dX10_count_0 rfl (lv_at hl 1 rfl) ?_
    refine lv_tableOut (tgt := 128) hx hb dX10_count_1 (by have z0 := ltT hn0; have k0 : (0 : Int32).toInt = 0 := (by decide); omega) (by decide) ?_
    refine lv_iconst (v := (-1)) hx hb dX10_count_128 (by decide) ?_
    exact retPi hx hb hr hlk hS dX10_count_129 ((spk_lo hn0).symm)
  · refine mkP (Qc := QPi (spk 8 a1 0 (-1))) (by decide) (by simp [lg_sl, Value.category]) ?_
    intro p e s m args below meth c ls hx hb hml hr hlk hown ht hK hP hS hl
    have hl : lv_has ls 2 [(0, .ref h), (1, .int a1)] := hl
    refine lv_iload_n hx hb dX10_count_0 rfl (lv_at hl 1 rfl) ?_
    refine lv_tableOut (tgt := 128) hx hb dX10_count_1 (by have z0 := leT hb0; have k0 : (8 : Int32).toInt = 8 := (by decide); omega) (by decide) ?_
    refine lv_iconst (v := (-1)) hx hb dX10_count_128 (by decide) ?_
    exact retPi hx hb hr hlk hS dX10_count_129 ((spk_hi (by decide) hb0).symm)
  · refine mkP (Qc := QPi (spk 8 0 0 (-1))) (by decide) (by simp [lg_sl, Value.category]) ?_
    intro p e s m args below meth c ls hx hb hml hr hlk hown ht hK hP hS hl
    have hl : lv_has ls 2 [(0, .ref h), (1, .int 0)] := hl
    refine lv_iload_n hx hb dX10_count_0 rfl (lv_at hl 1 rfl) ?_
    refine lv_tableIn (off := 47) (tgt := 48) hx hb dX10_count_1 (by decide) (by decide) (by decide) (by decide) ?_
    refine lv_aload_n hx hb dX10_count_48 rfl (lv_at hl 0 rfl) ?_
    refine getF hx hb ht hown hK hP iTX10 0 3 rfl rfl (by decide) fl_RX10_31 rfl dX10_count_49 ?_
    refine getF hx hb ht hown hK hP iTX8 2 0 rfl rfl (by decide) fl_RX10_98 rfl dX10_count_52 ?_
    refine getF hx hb ht hown hK hP iTX3 3 5 rfl rfl (by decide) fl_RX10_159 rfl dX10_count_55 ?_
    exact retPi hx hb hr hlk hS dX10_count_58 (by decide)
  · refine mkP (Qc := QPi (spk 8 1 0 (-1))) (by decide) (by simp [lg_sl, Value.category]) ?_
    intro p e s m args below meth c ls hx hb hml hr hlk hown ht hK hP hS hl
    have hl : lv_has ls 2 [(0, .ref h), (1, .int 1)] := hl
    refine lv_iload_n hx hb dX10_count_0 rfl (lv_at hl 1 rfl) ?_
    refine lv_tableIn (off := 58) (tgt := 59) hx hb dX10_count_1 (by decide) (by decide) (by decide) (by decide) ?_
    refine lv_aload_n hx hb dX10_count_59 rfl (lv_at hl 0 rfl) ?_
    refine getF hx hb ht hown hK hP iTX10 0 3 rfl rfl (by decide) fl_RX10_31 rfl dX10_count_60 ?_
    refine getF hx hb ht hown hK hP iTX8 2 0 rfl rfl (by decide) fl_RX10_98 rfl dX10_count_63 ?_
    refine behI (runVP (As := []) (rest := []) ⟨hx, hb, hml, hown, ht⟩ (pX3_countDoors l G cs h q ) okV_RX10_335 ⟨by decide, by decide⟩ hK hP [3] rfl 3 rfl rfl hl.1 rfl (Nat.le_of_ble_eq_true rfl) dX10_count_66 ⟨by decide, by decide⟩) hP hS (fun _ h => h) (fun H locs hP hS => ?_)
    exact retPi hx hb hr hlk hS dX10_count_69 (by decide)
  · refine mkP (Qc := QPi (spk 8 2 0 (-1))) (by decide) (by simp [lg_sl, Value.category]) ?_
    intro p e s m args below meth c ls hx hb hml hr hlk hown ht hK hP hS hl
    have hl : lv_has ls 2 [(0, .ref h), (1, .int 2)] := hl
    refine lv_iload_n hx hb dX10_count_0 rfl (lv_at hl 1 rfl) ?_
    refine lv_tableIn (off := 69) (tgt := 70) hx hb dX10_count_1 (by decide) (by decide) (by decide) (by decide) ?_
    refine lv_aload_n hx hb dX10_count_70 rfl (lv_at hl 0 rfl) ?_
    refine getF hx hb ht hown hK hP iTX10 0 3 rfl rfl (by decide) fl_RX10_31 rfl dX10_count_71 ?_
    refine getF hx hb ht hown hK hP iTX8 2 0 rfl rfl (by decide) fl_RX10_98 rfl dX10_count_74 ?_
    refine getF hx hb ht hown hK hP iTX3 3 6 rfl rfl (by decide) fl_RX10_283 rfl dX10_count_77 ?_
    exact retPi hx hb hr hlk hS dX10_count_80 (by decide)
  · refine mkP (Qc := QPi (spk 8 3 0 (-1))) (by decide) (by simp [lg_sl, Value.category]) ?_
    intro p e s m args below meth c ls hx hb hml hr hlk hown ht hK hP hS hl
    have hl : lv_has ls 2 [(0, .ref h), (1, .int 3)] := hl
    refine lv_iload_n hx hb dX10_count_0 rfl (lv_at hl 1 rfl) ?_
    refine lv_tableIn (off := 80) (tgt := 81) hx hb dX10_count_1 (by decide) (by decide) (by decide) (by decide) ?_
    refine lv_aload_n hx hb dX10_count_81 rfl (lv_at hl 0 rfl) ?_
    refine lv_aload_n hx hb dX10_count_82 rfl (lv_at hl 0 rfl) ?_
    refine getF hx hb ht hown hK hP iTX10 0 3 rfl rfl (by decide) fl_RX10_31 rfl dX10_count_83 ?_
    refine getF hx hb ht hown hK hP iTX8 2 0 rfl rfl (by decide) fl_RX10_98 rfl dX10_count_86 ?_
    refine behI (runVP (As := []) (rest := [.ref h]) ⟨hx, hb, hml, hown, ht⟩ (pX3_allRooms l G cs h q ) okV_RX10_238 ⟨by decide, by decide⟩ hK hP [3] rfl 3 rfl rfl hl.1 rfl (Nat.le_of_ble_eq_true rfl) dX10_count_89 ⟨by decide, by decide⟩) hP hS (fun _ h => h) (fun H locs hP hS => ?_)
    refine behI (runVP (As := [.int 0]) (rest := []) ⟨hx, hb, hml, hown, ht⟩ (pX10_peopleOf l G cs h q 0) okV_RX10_247 ⟨by decide, by decide⟩ hK hP [0, 2, 3] rfl 0 rfl rfl hl.1 rfl (Nat.le_of_ble_eq_true rfl) dX10_count_92 ⟨by decide, by decide⟩) hP hS (fun _ h => h) (fun H locs hP hS => ?_)
    exact retPi hx hb hr hlk hS dX10_count_95 (by decide)
  · refine mkP (Qc := QPi (spk 8 4 0 (-1))) (by decide) (by simp [lg_sl, Value.category]) ?_
    intro p e s m args below meth c ls hx hb hml hr hlk hown ht hK hP hS hl
    have hl : lv_has ls 2 [(0, .ref h), (1, .int 4)] := hl
    refine lv_iload_n hx hb dX10_count_0 rfl (lv_at hl 1 rfl) ?_
    refine lv_tableIn (off := 95) (tgt := 96) hx hb dX10_count_1 (by decide) (by decide) (by decide) (by decide) ?_
    refine lv_aload_n hx hb dX10_count_96 rfl (lv_at hl 0 rfl) ?_
    refine getF hx hb ht hown hK hP iTX10 0 3 rfl rfl (by decide) fl_RX10_31 rfl dX10_count_97 ?_
    refine getF hx hb ht hown hK hP iTX8 2 0 rfl rfl (by decide) fl_RX10_98 rfl dX10_count_100 ?_
    refine getF hx hb ht hown hK hP iTX3 3 0 rfl rfl (by decide) fl_RX10_111 rfl dX10_count_103 ?_
    exact retPi hx hb hr hlk hS dX10_count_106 (by decide)
  · refine mkP (Qc := QPi (spk 8 5 0 (-1))) (by decide) (by simp [lg_sl, Value.category]) ?_
    intro p e s m args below meth c ls hx hb hml hr hlk hown ht hK hP hS hl
    have hl : lv_has ls 2 [(0, .ref h), (1, .int 5)] := hl
    refine lv_iload_n hx hb dX10_count_0 rfl (lv_at hl 1 rfl) ?_
    refine lv_tableIn (off := 106) (tgt := 107) hx hb dX10_count_1 (by decide) (by decide) (by decide) (by decide) ?_
    refine lv_aload_n hx hb dX10_count_107 rfl (lv_at hl 0 rfl) ?_
    refine getF hx hb ht hown hK hP iTX10 0 1 rfl rfl (by decide) fl_RX10_20 rfl dX10_count_108 ?_
    refine getF hx hb ht hown hK hP iTX9 1 1 rfl rfl (by decide) fl_RX10_84 rfl dX10_count_111 ?_
    exact retPi hx hb hr hlk hS dX10_count_114 (by decide)
  · refine mkP (Qc := QPi (spk 8 6 0 (-1))) (by decide) (by simp [lg_sl, Value.category]) ?_
    intro p e s m args below meth c ls hx hb hml hr hlk hown ht hK hP hS hl
    have hl : lv_has ls 2 [(0, .ref h), (1, .int 6)] := hl
    refine lv_iload_n hx hb dX10_count_0 rfl (lv_at hl 1 rfl) ?_
    refine lv_tableIn (off := 114) (tgt := 115) hx hb dX10_count_1 (by decide) (by decide) (by decide) (by decide) ?_
    refine lv_aload_n hx hb dX10_count_115 rfl (lv_at hl 0 rfl) ?_
    refine getF hx hb ht hown hK hP iTX10 0 3 rfl rfl (by decide) fl_RX10_31 rfl dX10_count_116 ?_
    refine getF hx hb ht hown hK hP iTX8 2 2 rfl rfl (by decide) fl_RX10_105 rfl dX10_count_119 ?_
    exact retPi hx hb hr hlk hS dX10_count_122 (by decide)
  · refine mkP (Qc := QPi (spk 8 7 0 (-1))) (by decide) (by simp [lg_sl, Value.category]) ?_
    intro p e s m args below meth c ls hx hb hml hr hlk hown ht hK hP hS hl
    have hl : lv_has ls 2 [(0, .ref h), (1, .int 7)] := hl
    refine lv_iload_n hx hb dX10_count_0 rfl (lv_at hl 1 rfl) ?_
    refine lv_tableIn (off := 122) (tgt := 123) hx hb dX10_count_1 (by decide) (by decide) (by decide) (by decide) ?_
    refine lv_aload_n hx hb dX10_count_123 rfl (lv_at hl 0 rfl) ?_
    refine behI (runVP (As := []) (rest := []) ⟨hx, hb, hml, hown, ht⟩ (pX10_countRows l G cs h q ) okV_RX10_338 ⟨by decide, by decide⟩ hK hP [0, 4, 5, 6, 7, 8] rfl 0 rfl rfl hl.1 rfl (Nat.le_of_ble_eq_true rfl) dX10_count_124 ⟨by decide, by decide⟩) hP hS (fun _ h => h) (fun H locs hP hS => ?_)
    exact retPi hx hb hr hlk hS dX10_count_127 (by decide)

set_option maxRecDepth 100000 in
set_option maxHeartbeats 4000000 in
theorem pX10_back (l : Launch) (G : va_G) (cs : Nat → ClassId) (h : Nat) (q : Nat → Nat) (a1 : Int32) : PureI l yX10_back cX10_back 2 (some .int) 0 G (TY cs) [.ref h, .int a1] [(xc0 cs h q), (xc22 cs h q), (xc23 cs h q), (xc33 cs h q), (xc43 cs h q)] (spk 3 a1 (-6) (-2)) := by
  rcases cs3 a1 with hn0 | hb0 | rfl | rfl | rfl
  · refine mkP (Qc := QPi (spk 3 a1 (-6) (-2))) (by decide) (by simp [lg_sl, Value.category]) ?_
    intro p e s m args below meth c ls hx hb hml hr hlk hown ht hK hP hS hl
    have hl : lv_has ls 2 [(0, .ref h), (1, .int a1)] := hl
    refine lv_iload_n hx hb dX10_back_0 rfl (lv_at hl 1 rfl) ?_
    refine lv_if_lt (tgt := 9) hx hb dX10_back_1 (by decide) (fun c2 => ?_) (fun c1 => False.elim (by have z0 := ltT hn0; have z1 := nltT c1; have k0 : (0 : Int32).toInt = 0 := (by decide); omega))
    refine lv_bipush (v := (-2)) hx hb dX10_back_9 (by decide) ?_
    exact retPi hx hb hr hlk hS dX10_back_11 ((spk_lo hn0).symm)
  · refine mkP (Qc := QPi (spk 3 a1 (-6) (-2))) (by decide) (by simp [lg_sl, Value.category]) ?_
    intro p e s m args below meth c ls hx hb hml hr hlk hown ht hK hP hS hl
    have hl : lv_has ls 2 [(0, .ref h), (1, .int a1)] := hl
    refine lv_iload_n hx hb dX10_back_0 rfl (lv_at hl 1 rfl) ?_
    refine lv_if_lt (tgt := 9) hx hb dX10_back_1 (by decide) (fun c1 => False.elim (by have z0 := leT hb0; have z1 := ltT c1; have k0 : (0 : Int32).toInt = 0 := (by decide); have k1 : (3 : Int32).toInt = 3 := (by decide); omega)) (fun c2 => ?_)
    refine lv_iload_n hx hb dX10_back_4 rfl (lv_at hl 1 rfl) ?_
    refine lv_iconst (v := 3) hx hb dX10_back_5 (by decide) ?_
    refine lv_icmp_lt (tgt := 12) hx hb dX10_back_6 (by decide) (fun c3 => False.elim (by have z0 := leT hb0; have z1 := ltT c3; have k0 : (3 : Int32).toInt = 3 := (by decide); omega)) (fun c4 => ?_)
    refine lv_bipush (v := (-2)) hx hb dX10_back_9 (by decide) ?_
    exact retPi hx hb hr hlk hS dX10_back_11 ((spk_hi (by decide) hb0).symm)
  · refine mkP (Qc := QPi (spk 3 0 (-6) (-2))) (by decide) (by simp [lg_sl, Value.category]) ?_
    intro p e s m args below meth c ls hx hb hml hr hlk hown ht hK hP hS hl
    have hl : lv_has ls 2 [(0, .ref h), (1, .int 0)] := hl
    refine lv_iload_n hx hb dX10_back_0 rfl (lv_at hl 1 rfl) ?_
    refine lv_if_lt (tgt := 9) hx hb dX10_back_1 (by decide) (fun c1 => False.elim (by revert c1; decide)) (fun c2 => ?_)
    refine lv_iload_n hx hb dX10_back_4 rfl (lv_at hl 1 rfl) ?_
    refine lv_iconst (v := 3) hx hb dX10_back_5 (by decide) ?_
    refine lv_icmp_lt (tgt := 12) hx hb dX10_back_6 (by decide) (fun c4 => ?_) (fun c3 => False.elim (by revert c3; decide))
    refine lv_aload_n hx hb dX10_back_12 rfl (lv_at hl 0 rfl) ?_
    refine getF hx hb ht hown hK hP iTX10 0 4 rfl rfl (by decide) fl_RX10_35 rfl dX10_back_13 ?_
    refine lv_iload_n hx hb dX10_back_16 rfl (lv_at hl 1 rfl) ?_
    refine va_aldq hx hb hK.1 hP 1 4 rfl rfl (show ¬ (_ ∨ _) by decide) dX10_back_17 ?_
    refine W.eq (g2 := F0 m 18 ls [.ref (q 23)]) rfl ?_
    refine getF hx hb ht hown hK hP iTX8 2 3 rfl rfl (by decide) fl_RX10_344 rfl dX10_back_18 ?_
    refine lv_if_ne (tgt := 27) hx hb dX10_back_21 (by decide) (fun c5 => False.elim (by revert c5; decide)) (fun c6 => ?_)
    refine lv_bipush (v := (-6)) hx hb dX10_back_24 (by decide) ?_
    exact retPi hx hb hr hlk hS dX10_back_26 (by decide)
  · refine mkP (Qc := QPi (spk 3 1 (-6) (-2))) (by decide) (by simp [lg_sl, Value.category]) ?_
    intro p e s m args below meth c ls hx hb hml hr hlk hown ht hK hP hS hl
    have hl : lv_has ls 2 [(0, .ref h), (1, .int 1)] := hl
    refine lv_iload_n hx hb dX10_back_0 rfl (lv_at hl 1 rfl) ?_
    refine lv_if_lt (tgt := 9) hx hb dX10_back_1 (by decide) (fun c1 => False.elim (by revert c1; decide)) (fun c2 => ?_)
    refine lv_iload_n hx hb dX10_back_4 rfl (lv_at hl 1 rfl) ?_
    refine lv_iconst (v := 3) hx hb dX10_back_5 (by decide) ?_
    refine lv_icmp_lt (tgt := 12) hx hb dX10_back_6 (by decide) (fun c4 => ?_) (fun c3 => False.elim (by revert c3; decide))
    refine lv_aload_n hx hb dX10_back_12 rfl (lv_at hl 0 rfl) ?_
    refine getF hx hb ht hown hK hP iTX10 0 4 rfl rfl (by decide) fl_RX10_35 rfl dX10_back_13 ?_
    refine lv_iload_n hx hb dX10_back_16 rfl (lv_at hl 1 rfl) ?_
    refine va_aldq hx hb hK.1 hP 1 4 rfl rfl (show ¬ (_ ∨ _) by decide) dX10_back_17 ?_
    refine W.eq (g2 := F0 m 18 ls [.ref (q 33)]) rfl ?_
    refine getF hx hb ht hown hK hP iTX8 3 3 rfl rfl (by decide) fl_RX10_344 rfl dX10_back_18 ?_
    refine lv_if_ne (tgt := 27) hx hb dX10_back_21 (by decide) (fun c5 => False.elim (by revert c5; decide)) (fun c6 => ?_)
    refine lv_bipush (v := (-6)) hx hb dX10_back_24 (by decide) ?_
    exact retPi hx hb hr hlk hS dX10_back_26 (by decide)
  · refine mkP (Qc := QPi (spk 3 2 (-6) (-2))) (by decide) (by simp [lg_sl, Value.category]) ?_
    intro p e s m args below meth c ls hx hb hml hr hlk hown ht hK hP hS hl
    have hl : lv_has ls 2 [(0, .ref h), (1, .int 2)] := hl
    refine lv_iload_n hx hb dX10_back_0 rfl (lv_at hl 1 rfl) ?_
    refine lv_if_lt (tgt := 9) hx hb dX10_back_1 (by decide) (fun c1 => False.elim (by revert c1; decide)) (fun c2 => ?_)
    refine lv_iload_n hx hb dX10_back_4 rfl (lv_at hl 1 rfl) ?_
    refine lv_iconst (v := 3) hx hb dX10_back_5 (by decide) ?_
    refine lv_icmp_lt (tgt := 12) hx hb dX10_back_6 (by decide) (fun c4 => ?_) (fun c3 => False.elim (by revert c3; decide))
    refine lv_aload_n hx hb dX10_back_12 rfl (lv_at hl 0 rfl) ?_
    refine getF hx hb ht hown hK hP iTX10 0 4 rfl rfl (by decide) fl_RX10_35 rfl dX10_back_13 ?_
    refine lv_iload_n hx hb dX10_back_16 rfl (lv_at hl 1 rfl) ?_
    refine va_aldq hx hb hK.1 hP 1 4 rfl rfl (show ¬ (_ ∨ _) by decide) dX10_back_17 ?_
    refine W.eq (g2 := F0 m 18 ls [.ref (q 43)]) rfl ?_
    refine getF hx hb ht hown hK hP iTX8 4 3 rfl rfl (by decide) fl_RX10_344 rfl dX10_back_18 ?_
    refine lv_if_ne (tgt := 27) hx hb dX10_back_21 (by decide) (fun c5 => False.elim (by revert c5; decide)) (fun c6 => ?_)
    refine lv_bipush (v := (-6)) hx hb dX10_back_24 (by decide) ?_
    exact retPi hx hb hr hlk hS dX10_back_26 (by decide)

set_option maxRecDepth 100000 in
set_option maxHeartbeats 4000000 in
theorem pX10_write (l : Launch) (G : va_G) (cs : Nat → ClassId) (h : Nat) (q : Nat → Nat) (a1 : Int32) (a2 : Int32) (a3 : Int64) : PureI l yX10_write cX10_write 6 (some .int) 1 G (TY cs) [.ref h, .int a1, .int a2, .long a3] [(xc0 cs h q), (xc53 cs h q), (xc54 cs h q), (xc56 cs h q), (xc58 cs h q), (xc60 cs h q)] (spk 4 a1 (-6) (-2)) := by
  rcases cs4 a1 with hn0 | hb0 | rfl | rfl | rfl | rfl
  · refine mkP (Qc := QPi (spk 4 a1 (-6) (-2))) (by decide) (by simp [lg_sl, Value.category]) ?_
    intro p e s m args below meth c ls hx hb hml hr hlk hown ht hK hP hS hl
    have hl : lv_has ls 6 [(0, .ref h), (1, .int a1), (2, .int a2), (3, .long a3)] := hl
    refine lv_aload_n hx hb dX10_write_0 rfl (lv_at hl 0 rfl) ?_
    refine lv_iload_n hx hb dX10_write_1 rfl (lv_at hl 1 rfl) ?_
    refine behI (runVP (As := [.int a1]) (rest := []) ⟨hx, hb, hml, hown, ht⟩ (pX10_isSlot l G cs h q a1) okV_RX10_348 ⟨by decide, by decide⟩ hK hP [] rfl 0 rfl rfl hl.1 rfl (Nat.le_of_ble_eq_true rfl) dX10_write_2 ⟨by decide, by decide⟩) hP hS (fun _ h => h) (fun H locs hP hS => ?_)
    refine lv_topi (fun v1 ev1 => ?_)
    obtain rfl : v1 = 0 := ev1.trans (spk_lo hn0)
    refine lv_if_ne (tgt := 11) hx hb dX10_write_5 (by decide) (fun c2 => False.elim (by revert c2; decide)) (fun c3 => ?_)
    refine lv_bipush (v := (-2)) hx hb dX10_write_8 (by decide) ?_
    exact retPi hx hb hr hlk hS dX10_write_10 ((spk_lo hn0).symm)
  · refine mkP (Qc := QPi (spk 4 a1 (-6) (-2))) (by decide) (by simp [lg_sl, Value.category]) ?_
    intro p e s m args below meth c ls hx hb hml hr hlk hown ht hK hP hS hl
    have hl : lv_has ls 6 [(0, .ref h), (1, .int a1), (2, .int a2), (3, .long a3)] := hl
    refine lv_aload_n hx hb dX10_write_0 rfl (lv_at hl 0 rfl) ?_
    refine lv_iload_n hx hb dX10_write_1 rfl (lv_at hl 1 rfl) ?_
    refine behI (runVP (As := [.int a1]) (rest := []) ⟨hx, hb, hml, hown, ht⟩ (pX10_isSlot l G cs h q a1) okV_RX10_348 ⟨by decide, by decide⟩ hK hP [] rfl 0 rfl rfl hl.1 rfl (Nat.le_of_ble_eq_true rfl) dX10_write_2 ⟨by decide, by decide⟩) hP hS (fun _ h => h) (fun H locs hP hS => ?_)
    refine lv_topi (fun v1 ev1 => ?_)
    obtain rfl : v1 = 0 := ev1.trans (spk_hi (by decide) hb0)
    refine lv_if_ne (tgt := 11) hx hb dX10_write_5 (by decide) (fun c2 => False.elim (by revert c2; decide)) (fun c3 => ?_)
    refine lv_bipush (v := (-2)) hx hb dX10_write_8 (by decide) ?_
    exact retPi hx hb hr hlk hS dX10_write_10 ((spk_hi (by decide) hb0).symm)
  · refine mkP (Qc := QPi (spk 4 0 (-6) (-2))) (by decide) (by simp [lg_sl, Value.category]) ?_
    intro p e s m args below meth c ls hx hb hml hr hlk hown ht hK hP hS hl
    have hl : lv_has ls 6 [(0, .ref h), (1, .int 0), (2, .int a2), (3, .long a3)] := hl
    refine lv_aload_n hx hb dX10_write_0 rfl (lv_at hl 0 rfl) ?_
    refine lv_iload_n hx hb dX10_write_1 rfl (lv_at hl 1 rfl) ?_
    refine behI (runVP (As := [.int 0]) (rest := []) ⟨hx, hb, hml, hown, ht⟩ (pX10_isSlot l G cs h q 0) okV_RX10_348 ⟨by decide, by decide⟩ hK hP [] rfl 0 rfl rfl hl.1 rfl (Nat.le_of_ble_eq_true rfl) dX10_write_2 ⟨by decide, by decide⟩) hP hS (fun _ h => h) (fun H locs hP hS => ?_)
    refine lv_topi (fun v1 ev1 => ?_)
    obtain rfl : v1 = 1 := ev1.trans (by decide)
    refine lv_if_ne (tgt := 11) hx hb dX10_write_5 (by decide) (fun c3 => ?_) (fun c2 => False.elim (by revert c2; decide))
    refine lv_aload_n hx hb dX10_write_11 rfl (lv_at hl 0 rfl) ?_
    refine getF hx hb ht hown hK hP iTX10 0 5 rfl rfl (by decide) fl_RX10_41 rfl dX10_write_12 ?_
    refine lv_iload_n hx hb dX10_write_15 rfl (lv_at hl 1 rfl) ?_
    refine va_aldq hx hb hK.1 hP 1 5 rfl rfl (show ¬ (_ ∨ _) by decide) dX10_write_16 ?_
    refine W.eq (g2 := F0 m 17 ls [.ref (q 54)]) rfl ?_
    refine lv_astore (lv' := [(5, .ref (q 54)), (0, .ref h), (1, .int 0), (2, .int a2), (3, .long a3)]) hx hb dX10_write_17 hl (by decide) rfl (fun ls hl => ?_)
    refine lv_aload hx hb dX10_write_19 (lv_at hl 0 rfl) ?_
    refine getF hx hb ht hown hK hP iTX7 2 1 rfl rfl (by decide) fl_RX10_354 rfl dX10_write_21 ?_
    refine lv_if_ne (tgt := 30) hx hb dX10_write_24 (by decide) (fun c4 => False.elim (by revert c4; decide)) (fun c5 => ?_)
    refine lv_bipush (v := (-6)) hx hb dX10_write_27 (by decide) ?_
    exact retPi hx hb hr hlk hS dX10_write_29 (by decide)
  · refine mkP (Qc := QPi (spk 4 1 (-6) (-2))) (by decide) (by simp [lg_sl, Value.category]) ?_
    intro p e s m args below meth c ls hx hb hml hr hlk hown ht hK hP hS hl
    have hl : lv_has ls 6 [(0, .ref h), (1, .int 1), (2, .int a2), (3, .long a3)] := hl
    refine lv_aload_n hx hb dX10_write_0 rfl (lv_at hl 0 rfl) ?_
    refine lv_iload_n hx hb dX10_write_1 rfl (lv_at hl 1 rfl) ?_
    refine behI (runVP (As := [.int 1]) (rest := []) ⟨hx, hb, hml, hown, ht⟩ (pX10_isSlot l G cs h q 1) okV_RX10_348 ⟨by decide, by decide⟩ hK hP [] rfl 0 rfl rfl hl.1 rfl (Nat.le_of_ble_eq_true rfl) dX10_write_2 ⟨by decide, by decide⟩) hP hS (fun _ h => h) (fun H locs hP hS => ?_)
    refine lv_topi (fun v1 ev1 => ?_)
    obtain rfl : v1 = 1 := ev1.trans (by decide)
    refine lv_if_ne (tgt := 11) hx hb dX10_write_5 (by decide) (fun c3 => ?_) (fun c2 => False.elim (by revert c2; decide))
    refine lv_aload_n hx hb dX10_write_11 rfl (lv_at hl 0 rfl) ?_
    refine getF hx hb ht hown hK hP iTX10 0 5 rfl rfl (by decide) fl_RX10_41 rfl dX10_write_12 ?_
    refine lv_iload_n hx hb dX10_write_15 rfl (lv_at hl 1 rfl) ?_
    refine va_aldq hx hb hK.1 hP 1 5 rfl rfl (show ¬ (_ ∨ _) by decide) dX10_write_16 ?_
    refine W.eq (g2 := F0 m 17 ls [.ref (q 56)]) rfl ?_
    refine lv_astore (lv' := [(5, .ref (q 56)), (0, .ref h), (1, .int 1), (2, .int a2), (3, .long a3)]) hx hb dX10_write_17 hl (by decide) rfl (fun ls hl => ?_)
    refine lv_aload hx hb dX10_write_19 (lv_at hl 0 rfl) ?_
    refine getF hx hb ht hown hK hP iTX7 3 1 rfl rfl (by decide) fl_RX10_354 rfl dX10_write_21 ?_
    refine lv_if_ne (tgt := 30) hx hb dX10_write_24 (by decide) (fun c4 => False.elim (by revert c4; decide)) (fun c5 => ?_)
    refine lv_bipush (v := (-6)) hx hb dX10_write_27 (by decide) ?_
    exact retPi hx hb hr hlk hS dX10_write_29 (by decide)
  · refine mkP (Qc := QPi (spk 4 2 (-6) (-2))) (by decide) (by simp [lg_sl, Value.category]) ?_
    intro p e s m args below meth c ls hx hb hml hr hlk hown ht hK hP hS hl
    have hl : lv_has ls 6 [(0, .ref h), (1, .int 2), (2, .int a2), (3, .long a3)] := hl
    refine lv_aload_n hx hb dX10_write_0 rfl (lv_at hl 0 rfl) ?_
    refine lv_iload_n hx hb dX10_write_1 rfl (lv_at hl 1 rfl) ?_
    refine behI (runVP (As := [.int 2]) (rest := []) ⟨hx, hb, hml, hown, ht⟩ (pX10_isSlot l G cs h q 2) okV_RX10_348 ⟨by decide, by decide⟩ hK hP [] rfl 0 rfl rfl hl.1 rfl (Nat.le_of_ble_eq_true rfl) dX10_write_2 ⟨by decide, by decide⟩) hP hS (fun _ h => h) (fun H locs hP hS => ?_)
    refine lv_topi (fun v1 ev1 => ?_)
    obtain rfl : v1 = 1 := ev1.trans (by decide)
    refine lv_if_ne (tgt := 11) hx hb dX10_write_5 (by decide) (fun c3 => ?_) (fun c2 => False.elim (by revert c2; decide))
    refine lv_aload_n hx hb dX10_write_11 rfl (lv_at hl 0 rfl) ?_
    refine getF hx hb ht hown hK hP iTX10 0 5 rfl rfl (by decide) fl_RX10_41 rfl dX10_write_12 ?_
    refine lv_iload_n hx hb dX10_write_15 rfl (lv_at hl 1 rfl) ?_
    refine va_aldq hx hb hK.1 hP 1 5 rfl rfl (show ¬ (_ ∨ _) by decide) dX10_write_16 ?_
    refine W.eq (g2 := F0 m 17 ls [.ref (q 58)]) rfl ?_
    refine lv_astore (lv' := [(5, .ref (q 58)), (0, .ref h), (1, .int 2), (2, .int a2), (3, .long a3)]) hx hb dX10_write_17 hl (by decide) rfl (fun ls hl => ?_)
    refine lv_aload hx hb dX10_write_19 (lv_at hl 0 rfl) ?_
    refine getF hx hb ht hown hK hP iTX7 4 1 rfl rfl (by decide) fl_RX10_354 rfl dX10_write_21 ?_
    refine lv_if_ne (tgt := 30) hx hb dX10_write_24 (by decide) (fun c4 => False.elim (by revert c4; decide)) (fun c5 => ?_)
    refine lv_bipush (v := (-6)) hx hb dX10_write_27 (by decide) ?_
    exact retPi hx hb hr hlk hS dX10_write_29 (by decide)
  · refine mkP (Qc := QPi (spk 4 3 (-6) (-2))) (by decide) (by simp [lg_sl, Value.category]) ?_
    intro p e s m args below meth c ls hx hb hml hr hlk hown ht hK hP hS hl
    have hl : lv_has ls 6 [(0, .ref h), (1, .int 3), (2, .int a2), (3, .long a3)] := hl
    refine lv_aload_n hx hb dX10_write_0 rfl (lv_at hl 0 rfl) ?_
    refine lv_iload_n hx hb dX10_write_1 rfl (lv_at hl 1 rfl) ?_
    refine behI (runVP (As := [.int 3]) (rest := []) ⟨hx, hb, hml, hown, ht⟩ (pX10_isSlot l G cs h q 3) okV_RX10_348 ⟨by decide, by decide⟩ hK hP [] rfl 0 rfl rfl hl.1 rfl (Nat.le_of_ble_eq_true rfl) dX10_write_2 ⟨by decide, by decide⟩) hP hS (fun _ h => h) (fun H locs hP hS => ?_)
    refine lv_topi (fun v1 ev1 => ?_)
    obtain rfl : v1 = 1 := ev1.trans (by decide)
    refine lv_if_ne (tgt := 11) hx hb dX10_write_5 (by decide) (fun c3 => ?_) (fun c2 => False.elim (by revert c2; decide))
    refine lv_aload_n hx hb dX10_write_11 rfl (lv_at hl 0 rfl) ?_
    refine getF hx hb ht hown hK hP iTX10 0 5 rfl rfl (by decide) fl_RX10_41 rfl dX10_write_12 ?_
    refine lv_iload_n hx hb dX10_write_15 rfl (lv_at hl 1 rfl) ?_
    refine va_aldq hx hb hK.1 hP 1 5 rfl rfl (show ¬ (_ ∨ _) by decide) dX10_write_16 ?_
    refine W.eq (g2 := F0 m 17 ls [.ref (q 60)]) rfl ?_
    refine lv_astore (lv' := [(5, .ref (q 60)), (0, .ref h), (1, .int 3), (2, .int a2), (3, .long a3)]) hx hb dX10_write_17 hl (by decide) rfl (fun ls hl => ?_)
    refine lv_aload hx hb dX10_write_19 (lv_at hl 0 rfl) ?_
    refine getF hx hb ht hown hK hP iTX7 5 1 rfl rfl (by decide) fl_RX10_354 rfl dX10_write_21 ?_
    refine lv_if_ne (tgt := 30) hx hb dX10_write_24 (by decide) (fun c4 => False.elim (by revert c4; decide)) (fun c5 => ?_)
    refine lv_bipush (v := (-6)) hx hb dX10_write_27 (by decide) ?_
    exact retPi hx hb hr hlk hS dX10_write_29 (by decide)

set_option maxRecDepth 100000 in
set_option maxHeartbeats 4000000 in
theorem pX10_paste (l : Launch) (G : va_G) (cs : Nat → ClassId) (h : Nat) (q : Nat → Nat) (a1 : Int32) (a2 : Int32) (a3 : Int32) (a4 : Int32) (a5 : Int32) : PureI l yX10_paste cX10_paste 8 (some .int) 1 G (TY cs) [.ref h, .int a1, .int a2, .int a3, .int a4, .int a5] [(xc0 cs h q), (xc53 cs h q), (xc54 cs h q), (xc56 cs h q), (xc58 cs h q), (xc60 cs h q)] (spk 4 a1 (spk 4 a3 (-6) (-2)) (-2)) := by
  rcases cs4 a1 with hn0 | hb0 | rfl | rfl | rfl | rfl
  · refine mkP (Qc := QPi (spk 4 a1 (spk 4 a3 (-6) (-2)) (-2))) (by decide) (by simp [lg_sl, Value.category]) ?_
    intro p e s m args below meth c ls hx hb hml hr hlk hown ht hK hP hS hl
    have hl : lv_has ls 8 [(0, .ref h), (1, .int a1), (2, .int a2), (3, .int a3), (4, .int a4), (5, .int a5)] := hl
    refine lv_aload_n hx hb dX10_paste_0 rfl (lv_at hl 0 rfl) ?_
    refine lv_iload_n hx hb dX10_paste_1 rfl (lv_at hl 1 rfl) ?_
    refine behI (runVP (As := [.int a1]) (rest := []) ⟨hx, hb, hml, hown, ht⟩ (pX10_isSlot l G cs h q a1) okV_RX10_348 ⟨by decide, by decide⟩ hK hP [] rfl 0 rfl rfl hl.1 rfl (Nat.le_of_ble_eq_true rfl) dX10_paste_2 ⟨by decide, by decide⟩) hP hS (fun _ h => h) (fun H locs hP hS => ?_)
    refine lv_topi (fun v1 ev1 => ?_)
    obtain rfl : v1 = 0 := ev1.trans (spk_lo hn0)
    refine lv_if_eq (tgt := 16) hx hb dX10_paste_5 (by decide) (fun c3 => ?_) (fun c2 => False.elim (by revert c2; decide))
    refine lv_bipush (v := (-2)) hx hb dX10_paste_16 (by decide) ?_
    exact retPi hx hb hr hlk hS dX10_paste_18 ((spk_lo hn0).symm)
  · refine mkP (Qc := QPi (spk 4 a1 (spk 4 a3 (-6) (-2)) (-2))) (by decide) (by simp [lg_sl, Value.category]) ?_
    intro p e s m args below meth c ls hx hb hml hr hlk hown ht hK hP hS hl
    have hl : lv_has ls 8 [(0, .ref h), (1, .int a1), (2, .int a2), (3, .int a3), (4, .int a4), (5, .int a5)] := hl
    refine lv_aload_n hx hb dX10_paste_0 rfl (lv_at hl 0 rfl) ?_
    refine lv_iload_n hx hb dX10_paste_1 rfl (lv_at hl 1 rfl) ?_
    refine behI (runVP (As := [.int a1]) (rest := []) ⟨hx, hb, hml, hown, ht⟩ (pX10_isSlot l G cs h q a1) okV_RX10_348 ⟨by decide, by decide⟩ hK hP [] rfl 0 rfl rfl hl.1 rfl (Nat.le_of_ble_eq_true rfl) dX10_paste_2 ⟨by decide, by decide⟩) hP hS (fun _ h => h) (fun H locs hP hS => ?_)
    refine lv_topi (fun v1 ev1 => ?_)
    obtain rfl : v1 = 0 := ev1.trans (spk_hi (by decide) hb0)
    refine lv_if_eq (tgt := 16) hx hb dX10_paste_5 (by decide) (fun c3 => ?_) (fun c2 => False.elim (by revert c2; decide))
    refine lv_bipush (v := (-2)) hx hb dX10_paste_16 (by decide) ?_
    exact retPi hx hb hr hlk hS dX10_paste_18 ((spk_hi (by decide) hb0).symm)
  · rcases cs4 a3 with hn2 | hb2 | rfl | rfl | rfl | rfl
    · refine mkP (Qc := QPi (spk 4 0 (spk 4 a3 (-6) (-2)) (-2))) (by decide) (by simp [lg_sl, Value.category]) ?_
      intro p e s m args below meth c ls hx hb hml hr hlk hown ht hK hP hS hl
      have hl : lv_has ls 8 [(0, .ref h), (1, .int 0), (2, .int a2), (3, .int a3), (4, .int a4), (5, .int a5)] := hl
      refine lv_aload_n hx hb dX10_paste_0 rfl (lv_at hl 0 rfl) ?_
      refine lv_iload_n hx hb dX10_paste_1 rfl (lv_at hl 1 rfl) ?_
      refine behI (runVP (As := [.int 0]) (rest := []) ⟨hx, hb, hml, hown, ht⟩ (pX10_isSlot l G cs h q 0) okV_RX10_348 ⟨by decide, by decide⟩ hK hP [] rfl 0 rfl rfl hl.1 rfl (Nat.le_of_ble_eq_true rfl) dX10_paste_2 ⟨by decide, by decide⟩) hP hS (fun _ h => h) (fun H locs hP hS => ?_)
      refine lv_topi (fun v1 ev1 => ?_)
      obtain rfl : v1 = 1 := ev1.trans (by decide)
      refine lv_if_eq (tgt := 16) hx hb dX10_paste_5 (by decide) (fun c2 => False.elim (by revert c2; decide)) (fun c3 => ?_)
      refine lv_aload_n hx hb dX10_paste_8 rfl (lv_at hl 0 rfl) ?_
      refine lv_iload_n hx hb dX10_paste_9 rfl (lv_at hl 3 rfl) ?_
      refine behI (runVP (As := [.int a3]) (rest := []) ⟨hx, hb, hml, hown, ht⟩ (pX10_isSlot l G cs h q a3) okV_RX10_348 ⟨by decide, by decide⟩ hK hP [] rfl 0 rfl rfl hl.1 rfl (Nat.le_of_ble_eq_true rfl) dX10_paste_10 ⟨by decide, by decide⟩) hP hS (fun _ h => h) (fun H locs hP hS => ?_)
      refine lv_topi (fun v4 ev4 => ?_)
      obtain rfl : v4 = 0 := ev4.trans (spk_lo hn2)
      refine lv_if_ne (tgt := 19) hx hb dX10_paste_13 (by decide) (fun c5 => False.elim (by revert c5; decide)) (fun c6 => ?_)
      refine lv_bipush (v := (-2)) hx hb dX10_paste_16 (by decide) ?_
      exact retPi hx hb hr hlk hS dX10_paste_18 ((show _ = spk 4 _ (spk 4 a3 (-6) (-2)) (-2) by rw [spk_lo hn2]; decide))
    · refine mkP (Qc := QPi (spk 4 0 (spk 4 a3 (-6) (-2)) (-2))) (by decide) (by simp [lg_sl, Value.category]) ?_
      intro p e s m args below meth c ls hx hb hml hr hlk hown ht hK hP hS hl
      have hl : lv_has ls 8 [(0, .ref h), (1, .int 0), (2, .int a2), (3, .int a3), (4, .int a4), (5, .int a5)] := hl
      refine lv_aload_n hx hb dX10_paste_0 rfl (lv_at hl 0 rfl) ?_
      refine lv_iload_n hx hb dX10_paste_1 rfl (lv_at hl 1 rfl) ?_
      refine behI (runVP (As := [.int 0]) (rest := []) ⟨hx, hb, hml, hown, ht⟩ (pX10_isSlot l G cs h q 0) okV_RX10_348 ⟨by decide, by decide⟩ hK hP [] rfl 0 rfl rfl hl.1 rfl (Nat.le_of_ble_eq_true rfl) dX10_paste_2 ⟨by decide, by decide⟩) hP hS (fun _ h => h) (fun H locs hP hS => ?_)
      refine lv_topi (fun v1 ev1 => ?_)
      obtain rfl : v1 = 1 := ev1.trans (by decide)
      refine lv_if_eq (tgt := 16) hx hb dX10_paste_5 (by decide) (fun c2 => False.elim (by revert c2; decide)) (fun c3 => ?_)
      refine lv_aload_n hx hb dX10_paste_8 rfl (lv_at hl 0 rfl) ?_
      refine lv_iload_n hx hb dX10_paste_9 rfl (lv_at hl 3 rfl) ?_
      refine behI (runVP (As := [.int a3]) (rest := []) ⟨hx, hb, hml, hown, ht⟩ (pX10_isSlot l G cs h q a3) okV_RX10_348 ⟨by decide, by decide⟩ hK hP [] rfl 0 rfl rfl hl.1 rfl (Nat.le_of_ble_eq_true rfl) dX10_paste_10 ⟨by decide, by decide⟩) hP hS (fun _ h => h) (fun H locs hP hS => ?_)
      refine lv_topi (fun v4 ev4 => ?_)
      obtain rfl : v4 = 0 := ev4.trans (spk_hi (by decide) hb2)
      refine lv_if_ne (tgt := 19) hx hb dX10_paste_13 (by decide) (fun c5 => False.elim (by revert c5; decide)) (fun c6 => ?_)
      refine lv_bipush (v := (-2)) hx hb dX10_paste_16 (by decide) ?_
      exact retPi hx hb hr hlk hS dX10_paste_18 ((show _ = spk 4 _ (spk 4 a3 (-6) (-2)) (-2) by rw [spk_hi (by decide) hb2]; decide))
    · refine mkP (Qc := QPi (spk 4 0 (spk 4 0 (-6) (-2)) (-2))) (by decide) (by simp [lg_sl, Value.category]) ?_
      intro p e s m args below meth c ls hx hb hml hr hlk hown ht hK hP hS hl
      have hl : lv_has ls 8 [(0, .ref h), (1, .int 0), (2, .int a2), (3, .int 0), (4, .int a4), (5, .int a5)] := hl
      refine lv_aload_n hx hb dX10_paste_0 rfl (lv_at hl 0 rfl) ?_
      refine lv_iload_n hx hb dX10_paste_1 rfl (lv_at hl 1 rfl) ?_
      refine behI (runVP (As := [.int 0]) (rest := []) ⟨hx, hb, hml, hown, ht⟩ (pX10_isSlot l G cs h q 0) okV_RX10_348 ⟨by decide, by decide⟩ hK hP [] rfl 0 rfl rfl hl.1 rfl (Nat.le_of_ble_eq_true rfl) dX10_paste_2 ⟨by decide, by decide⟩) hP hS (fun _ h => h) (fun H locs hP hS => ?_)
      refine lv_topi (fun v1 ev1 => ?_)
      obtain rfl : v1 = 1 := ev1.trans (by decide)
      refine lv_if_eq (tgt := 16) hx hb dX10_paste_5 (by decide) (fun c2 => False.elim (by revert c2; decide)) (fun c3 => ?_)
      refine lv_aload_n hx hb dX10_paste_8 rfl (lv_at hl 0 rfl) ?_
      refine lv_iload_n hx hb dX10_paste_9 rfl (lv_at hl 3 rfl) ?_
      refine behI (runVP (As := [.int 0]) (rest := []) ⟨hx, hb, hml, hown, ht⟩ (pX10_isSlot l G cs h q 0) okV_RX10_348 ⟨by decide, by decide⟩ hK hP [] rfl 0 rfl rfl hl.1 rfl (Nat.le_of_ble_eq_true rfl) dX10_paste_10 ⟨by decide, by decide⟩) hP hS (fun _ h => h) (fun H locs hP hS => ?_)
      refine lv_topi (fun v4 ev4 => ?_)
      obtain rfl : v4 = 1 := ev4.trans (by decide)
      refine lv_if_ne (tgt := 19) hx hb dX10_paste_13 (by decide) (fun c6 => ?_) (fun c5 => False.elim (by revert c5; decide))
      refine lv_aload_n hx hb dX10_paste_19 rfl (lv_at hl 0 rfl) ?_
      refine getF hx hb ht hown hK hP iTX10 0 5 rfl rfl (by decide) fl_RX10_41 rfl dX10_paste_20 ?_
      refine lv_iload_n hx hb dX10_paste_23 rfl (lv_at hl 1 rfl) ?_
      refine va_aldq hx hb hK.1 hP 1 5 rfl rfl (show ¬ (_ ∨ _) by decide) dX10_paste_24 ?_
      refine W.eq (g2 := F0 m 25 ls [.ref (q 54)]) rfl ?_
      refine lv_astore (lv' := [(6, .ref (q 54)), (0, .ref h), (1, .int 0), (2, .int a2), (3, .int 0), (4, .int a4), (5, .int a5)]) hx hb dX10_paste_25 hl (by decide) rfl (fun ls hl => ?_)
      refine lv_aload_n hx hb dX10_paste_27 rfl (lv_at hl 1 rfl) ?_
      refine getF hx hb ht hown hK hP iTX10 0 5 rfl rfl (by decide) fl_RX10_41 rfl dX10_paste_28 ?_
      refine lv_iload_n hx hb dX10_paste_31 rfl (lv_at hl 4 rfl) ?_
      refine va_aldq hx hb hK.1 hP 1 5 rfl rfl (show ¬ (_ ∨ _) by decide) dX10_paste_32 ?_
      refine W.eq (g2 := F0 m 33 ls [.ref (q 54)]) rfl ?_
      refine lv_astore (lv' := [(7, .ref (q 54)), (6, .ref (q 54)), (0, .ref h), (1, .int 0), (2, .int a2), (3, .int 0), (4, .int a4), (5, .int a5)]) hx hb dX10_paste_33 hl (by decide) rfl (fun ls hl => ?_)
      refine lv_aload hx hb dX10_paste_35 (lv_at hl 1 rfl) ?_
      refine getF hx hb ht hown hK hP iTX7 2 1 rfl rfl (by decide) fl_RX10_354 rfl dX10_paste_37 ?_
      refine lv_if_eq (tgt := 51) hx hb dX10_paste_40 (by decide) (fun c8 => ?_) (fun c7 => False.elim (by revert c7; decide))
      refine lv_bipush (v := (-6)) hx hb dX10_paste_51 (by decide) ?_
      exact retPi hx hb hr hlk hS dX10_paste_53 (by decide)
    · refine mkP (Qc := QPi (spk 4 0 (spk 4 1 (-6) (-2)) (-2))) (by decide) (by simp [lg_sl, Value.category]) ?_
      intro p e s m args below meth c ls hx hb hml hr hlk hown ht hK hP hS hl
      have hl : lv_has ls 8 [(0, .ref h), (1, .int 0), (2, .int a2), (3, .int 1), (4, .int a4), (5, .int a5)] := hl
      refine lv_aload_n hx hb dX10_paste_0 rfl (lv_at hl 0 rfl) ?_
      refine lv_iload_n hx hb dX10_paste_1 rfl (lv_at hl 1 rfl) ?_
      refine behI (runVP (As := [.int 0]) (rest := []) ⟨hx, hb, hml, hown, ht⟩ (pX10_isSlot l G cs h q 0) okV_RX10_348 ⟨by decide, by decide⟩ hK hP [] rfl 0 rfl rfl hl.1 rfl (Nat.le_of_ble_eq_true rfl) dX10_paste_2 ⟨by decide, by decide⟩) hP hS (fun _ h => h) (fun H locs hP hS => ?_)
      refine lv_topi (fun v1 ev1 => ?_)
      obtain rfl : v1 = 1 := ev1.trans (by decide)
      refine lv_if_eq (tgt := 16) hx hb dX10_paste_5 (by decide) (fun c2 => False.elim (by revert c2; decide)) (fun c3 => ?_)
      refine lv_aload_n hx hb dX10_paste_8 rfl (lv_at hl 0 rfl) ?_
      refine lv_iload_n hx hb dX10_paste_9 rfl (lv_at hl 3 rfl) ?_
      refine behI (runVP (As := [.int 1]) (rest := []) ⟨hx, hb, hml, hown, ht⟩ (pX10_isSlot l G cs h q 1) okV_RX10_348 ⟨by decide, by decide⟩ hK hP [] rfl 0 rfl rfl hl.1 rfl (Nat.le_of_ble_eq_true rfl) dX10_paste_10 ⟨by decide, by decide⟩) hP hS (fun _ h => h) (fun H locs hP hS => ?_)
      refine lv_topi (fun v4 ev4 => ?_)
      obtain rfl : v4 = 1 := ev4.trans (by decide)
      refine lv_if_ne (tgt := 19) hx hb dX10_paste_13 (by decide) (fun c6 => ?_) (fun c5 => False.elim (by revert c5; decide))
      refine lv_aload_n hx hb dX10_paste_19 rfl (lv_at hl 0 rfl) ?_
      refine getF hx hb ht hown hK hP iTX10 0 5 rfl rfl (by decide) fl_RX10_41 rfl dX10_paste_20 ?_
      refine lv_iload_n hx hb dX10_paste_23 rfl (lv_at hl 1 rfl) ?_
      refine va_aldq hx hb hK.1 hP 1 5 rfl rfl (show ¬ (_ ∨ _) by decide) dX10_paste_24 ?_
      refine W.eq (g2 := F0 m 25 ls [.ref (q 54)]) rfl ?_
      refine lv_astore (lv' := [(6, .ref (q 54)), (0, .ref h), (1, .int 0), (2, .int a2), (3, .int 1), (4, .int a4), (5, .int a5)]) hx hb dX10_paste_25 hl (by decide) rfl (fun ls hl => ?_)
      refine lv_aload_n hx hb dX10_paste_27 rfl (lv_at hl 1 rfl) ?_
      refine getF hx hb ht hown hK hP iTX10 0 5 rfl rfl (by decide) fl_RX10_41 rfl dX10_paste_28 ?_
      refine lv_iload_n hx hb dX10_paste_31 rfl (lv_at hl 4 rfl) ?_
      refine va_aldq hx hb hK.1 hP 1 5 rfl rfl (show ¬ (_ ∨ _) by decide) dX10_paste_32 ?_
      refine W.eq (g2 := F0 m 33 ls [.ref (q 56)]) rfl ?_
      refine lv_astore (lv' := [(7, .ref (q 56)), (6, .ref (q 54)), (0, .ref h), (1, .int 0), (2, .int a2), (3, .int 1), (4, .int a4), (5, .int a5)]) hx hb dX10_paste_33 hl (by decide) rfl (fun ls hl => ?_)
      refine lv_aload hx hb dX10_paste_35 (lv_at hl 1 rfl) ?_
      refine getF hx hb ht hown hK hP iTX7 2 1 rfl rfl (by decide) fl_RX10_354 rfl dX10_paste_37 ?_
      refine lv_if_eq (tgt := 51) hx hb dX10_paste_40 (by decide) (fun c8 => ?_) (fun c7 => False.elim (by revert c7; decide))
      refine lv_bipush (v := (-6)) hx hb dX10_paste_51 (by decide) ?_
      exact retPi hx hb hr hlk hS dX10_paste_53 (by decide)
    · refine mkP (Qc := QPi (spk 4 0 (spk 4 2 (-6) (-2)) (-2))) (by decide) (by simp [lg_sl, Value.category]) ?_
      intro p e s m args below meth c ls hx hb hml hr hlk hown ht hK hP hS hl
      have hl : lv_has ls 8 [(0, .ref h), (1, .int 0), (2, .int a2), (3, .int 2), (4, .int a4), (5, .int a5)] := hl
      refine lv_aload_n hx hb dX10_paste_0 rfl (lv_at hl 0 rfl) ?_
      refine lv_iload_n hx hb dX10_paste_1 rfl (lv_at hl 1 rfl) ?_
      refine behI (runVP (As := [.int 0]) (rest := []) ⟨hx, hb, hml, hown, ht⟩ (pX10_isSlot l G cs h q 0) okV_RX10_348 ⟨by decide, by decide⟩ hK hP [] rfl 0 rfl rfl hl.1 rfl (Nat.le_of_ble_eq_true rfl) dX10_paste_2 ⟨by decide, by decide⟩) hP hS (fun _ h => h) (fun H locs hP hS => ?_)
      refine lv_topi (fun v1 ev1 => ?_)
      obtain rfl : v1 = 1 := ev1.trans (by decide)
      refine lv_if_eq (tgt := 16) hx hb dX10_paste_5 (by decide) (fun c2 => False.elim (by revert c2; decide)) (fun c3 => ?_)
      refine lv_aload_n hx hb dX10_paste_8 rfl (lv_at hl 0 rfl) ?_
      refine lv_iload_n hx hb dX10_paste_9 rfl (lv_at hl 3 rfl) ?_
      refine behI (runVP (As := [.int 2]) (rest := []) ⟨hx, hb, hml, hown, ht⟩ (pX10_isSlot l G cs h q 2) okV_RX10_348 ⟨by decide, by decide⟩ hK hP [] rfl 0 rfl rfl hl.1 rfl (Nat.le_of_ble_eq_true rfl) dX10_paste_10 ⟨by decide, by decide⟩) hP hS (fun _ h => h) (fun H locs hP hS => ?_)
      refine lv_topi (fun v4 ev4 => ?_)
      obtain rfl : v4 = 1 := ev4.trans (by decide)
      refine lv_if_ne (tgt := 19) hx hb dX10_paste_13 (by decide) (fun c6 => ?_) (fun c5 => False.elim (by revert c5; decide))
      refine lv_aload_n hx hb dX10_paste_19 rfl (lv_at hl 0 rfl) ?_
      refine getF hx hb ht hown hK hP iTX10 0 5 rfl rfl (by decide) fl_RX10_41 rfl dX10_paste_20 ?_
      refine lv_iload_n hx hb dX10_paste_23 rfl (lv_at hl 1 rfl) ?_
      refine va_aldq hx hb hK.1 hP 1 5 rfl rfl (show ¬ (_ ∨ _) by decide) dX10_paste_24 ?_
      refine W.eq (g2 := F0 m 25 ls [.ref (q 54)]) rfl ?_
      refine lv_astore (lv' := [(6, .ref (q 54)), (0, .ref h), (1, .int 0), (2, .int a2), (3, .int 2), (4, .int a4), (5, .int a5)]) hx hb dX10_paste_25 hl (by decide) rfl (fun ls hl => ?_)
      refine lv_aload_n hx hb dX10_paste_27 rfl (lv_at hl 1 rfl) ?_
      refine getF hx hb ht hown hK hP iTX10 0 5 rfl rfl (by decide) fl_RX10_41 rfl dX10_paste_28 ?_
      refine lv_iload_n hx hb dX10_paste_31 rfl (lv_at hl 4 rfl) ?_
      refine va_aldq hx hb hK.1 hP 1 5 rfl rfl (show ¬ (_ ∨ _) by decide) dX10_paste_32 ?_
      refine W.eq (g2 := F0 m 33 ls [.ref (q 58)]) rfl ?_
      refine lv_astore (lv' := [(7, .ref (q 58)), (6, .ref (q 54)), (0, .ref h), (1, .int 0), (2, .int a2), (3, .int 2), (4, .int a4), (5, .int a5)]) hx hb dX10_paste_33 hl (by decide) rfl (fun ls hl => ?_)
      refine lv_aload hx hb dX10_paste_35 (lv_at hl 1 rfl) ?_
      refine getF hx hb ht hown hK hP iTX7 2 1 rfl rfl (by decide) fl_RX10_354 rfl dX10_paste_37 ?_
      refine lv_if_eq (tgt := 51) hx hb dX10_paste_40 (by decide) (fun c8 => ?_) (fun c7 => False.elim (by revert c7; decide))
      refine lv_bipush (v := (-6)) hx hb dX10_paste_51 (by decide) ?_
      exact retPi hx hb hr hlk hS dX10_paste_53 (by decide)
    · refine mkP (Qc := QPi (spk 4 0 (spk 4 3 (-6) (-2)) (-2))) (by decide) (by simp [lg_sl, Value.category]) ?_
      intro p e s m args below meth c ls hx hb hml hr hlk hown ht hK hP hS hl
      have hl : lv_has ls 8 [(0, .ref h), (1, .int 0), (2, .int a2), (3, .int 3), (4, .int a4), (5, .int a5)] := hl
      refine lv_aload_n hx hb dX10_paste_0 rfl (lv_at hl 0 rfl) ?_
      refine lv_iload_n hx hb dX10_paste_1 rfl (lv_at hl 1 rfl) ?_
      refine behI (runVP (As := [.int 0]) (rest := []) ⟨hx, hb, hml, hown, ht⟩ (pX10_isSlot l G cs h q 0) okV_RX10_348 ⟨by decide, by decide⟩ hK hP [] rfl 0 rfl rfl hl.1 rfl (Nat.le_of_ble_eq_true rfl) dX10_paste_2 ⟨by decide, by decide⟩) hP hS (fun _ h => h) (fun H locs hP hS => ?_)
      refine lv_topi (fun v1 ev1 => ?_)
      obtain rfl : v1 = 1 := ev1.trans (by decide)
      refine lv_if_eq (tgt := 16) hx hb dX10_paste_5 (by decide) (fun c2 => False.elim (by revert c2; decide)) (fun c3 => ?_)
      refine lv_aload_n hx hb dX10_paste_8 rfl (lv_at hl 0 rfl) ?_
      refine lv_iload_n hx hb dX10_paste_9 rfl (lv_at hl 3 rfl) ?_
      refine behI (runVP (As := [.int 3]) (rest := []) ⟨hx, hb, hml, hown, ht⟩ (pX10_isSlot l G cs h q 3) okV_RX10_348 ⟨by decide, by decide⟩ hK hP [] rfl 0 rfl rfl hl.1 rfl (Nat.le_of_ble_eq_true rfl) dX10_paste_10 ⟨by decide, by decide⟩) hP hS (fun _ h => h) (fun H locs hP hS => ?_)
      refine lv_topi (fun v4 ev4 => ?_)
      obtain rfl : v4 = 1 := ev4.trans (by decide)
      refine lv_if_ne (tgt := 19) hx hb dX10_paste_13 (by decide) (fun c6 => ?_) (fun c5 => False.elim (by revert c5; decide))
      refine lv_aload_n hx hb dX10_paste_19 rfl (lv_at hl 0 rfl) ?_
      refine getF hx hb ht hown hK hP iTX10 0 5 rfl rfl (by decide) fl_RX10_41 rfl dX10_paste_20 ?_
      refine lv_iload_n hx hb dX10_paste_23 rfl (lv_at hl 1 rfl) ?_
      refine va_aldq hx hb hK.1 hP 1 5 rfl rfl (show ¬ (_ ∨ _) by decide) dX10_paste_24 ?_
      refine W.eq (g2 := F0 m 25 ls [.ref (q 54)]) rfl ?_
      refine lv_astore (lv' := [(6, .ref (q 54)), (0, .ref h), (1, .int 0), (2, .int a2), (3, .int 3), (4, .int a4), (5, .int a5)]) hx hb dX10_paste_25 hl (by decide) rfl (fun ls hl => ?_)
      refine lv_aload_n hx hb dX10_paste_27 rfl (lv_at hl 1 rfl) ?_
      refine getF hx hb ht hown hK hP iTX10 0 5 rfl rfl (by decide) fl_RX10_41 rfl dX10_paste_28 ?_
      refine lv_iload_n hx hb dX10_paste_31 rfl (lv_at hl 4 rfl) ?_
      refine va_aldq hx hb hK.1 hP 1 5 rfl rfl (show ¬ (_ ∨ _) by decide) dX10_paste_32 ?_
      refine W.eq (g2 := F0 m 33 ls [.ref (q 60)]) rfl ?_
      refine lv_astore (lv' := [(7, .ref (q 60)), (6, .ref (q 54)), (0, .ref h), (1, .int 0), (2, .int a2), (3, .int 3), (4, .int a4), (5, .int a5)]) hx hb dX10_paste_33 hl (by decide) rfl (fun ls hl => ?_)
      refine lv_aload hx hb dX10_paste_35 (lv_at hl 1 rfl) ?_
      refine getF hx hb ht hown hK hP iTX7 2 1 rfl rfl (by decide) fl_RX10_354 rfl dX10_paste_37 ?_
      refine lv_if_eq (tgt := 51) hx hb dX10_paste_40 (by decide) (fun c8 => ?_) (fun c7 => False.elim (by revert c7; decide))
      refine lv_bipush (v := (-6)) hx hb dX10_paste_51 (by decide) ?_
      exact retPi hx hb hr hlk hS dX10_paste_53 (by decide)
  · rcases cs4 a3 with hn2 | hb2 | rfl | rfl | rfl | rfl
    · refine mkP (Qc := QPi (spk 4 1 (spk 4 a3 (-6) (-2)) (-2))) (by decide) (by simp [lg_sl, Value.category]) ?_
      intro p e s m args below meth c ls hx hb hml hr hlk hown ht hK hP hS hl
      have hl : lv_has ls 8 [(0, .ref h), (1, .int 1), (2, .int a2), (3, .int a3), (4, .int a4), (5, .int a5)] := hl
      refine lv_aload_n hx hb dX10_paste_0 rfl (lv_at hl 0 rfl) ?_
      refine lv_iload_n hx hb dX10_paste_1 rfl (lv_at hl 1 rfl) ?_
      refine behI (runVP (As := [.int 1]) (rest := []) ⟨hx, hb, hml, hown, ht⟩ (pX10_isSlot l G cs h q 1) okV_RX10_348 ⟨by decide, by decide⟩ hK hP [] rfl 0 rfl rfl hl.1 rfl (Nat.le_of_ble_eq_true rfl) dX10_paste_2 ⟨by decide, by decide⟩) hP hS (fun _ h => h) (fun H locs hP hS => ?_)
      refine lv_topi (fun v1 ev1 => ?_)
      obtain rfl : v1 = 1 := ev1.trans (by decide)
      refine lv_if_eq (tgt := 16) hx hb dX10_paste_5 (by decide) (fun c2 => False.elim (by revert c2; decide)) (fun c3 => ?_)
      refine lv_aload_n hx hb dX10_paste_8 rfl (lv_at hl 0 rfl) ?_
      refine lv_iload_n hx hb dX10_paste_9 rfl (lv_at hl 3 rfl) ?_
      refine behI (runVP (As := [.int a3]) (rest := []) ⟨hx, hb, hml, hown, ht⟩ (pX10_isSlot l G cs h q a3) okV_RX10_348 ⟨by decide, by decide⟩ hK hP [] rfl 0 rfl rfl hl.1 rfl (Nat.le_of_ble_eq_true rfl) dX10_paste_10 ⟨by decide, by decide⟩) hP hS (fun _ h => h) (fun H locs hP hS => ?_)
      refine lv_topi (fun v4 ev4 => ?_)
      obtain rfl : v4 = 0 := ev4.trans (spk_lo hn2)
      refine lv_if_ne (tgt := 19) hx hb dX10_paste_13 (by decide) (fun c5 => False.elim (by revert c5; decide)) (fun c6 => ?_)
      refine lv_bipush (v := (-2)) hx hb dX10_paste_16 (by decide) ?_
      exact retPi hx hb hr hlk hS dX10_paste_18 ((show _ = spk 4 _ (spk 4 a3 (-6) (-2)) (-2) by rw [spk_lo hn2]; decide))
    · refine mkP (Qc := QPi (spk 4 1 (spk 4 a3 (-6) (-2)) (-2))) (by decide) (by simp [lg_sl, Value.category]) ?_
      intro p e s m args below meth c ls hx hb hml hr hlk hown ht hK hP hS hl
      have hl : lv_has ls 8 [(0, .ref h), (1, .int 1), (2, .int a2), (3, .int a3), (4, .int a4), (5, .int a5)] := hl
      refine lv_aload_n hx hb dX10_paste_0 rfl (lv_at hl 0 rfl) ?_
      refine lv_iload_n hx hb dX10_paste_1 rfl (lv_at hl 1 rfl) ?_
      refine behI (runVP (As := [.int 1]) (rest := []) ⟨hx, hb, hml, hown, ht⟩ (pX10_isSlot l G cs h q 1) okV_RX10_348 ⟨by decide, by decide⟩ hK hP [] rfl 0 rfl rfl hl.1 rfl (Nat.le_of_ble_eq_true rfl) dX10_paste_2 ⟨by decide, by decide⟩) hP hS (fun _ h => h) (fun H locs hP hS => ?_)
      refine lv_topi (fun v1 ev1 => ?_)
      obtain rfl : v1 = 1 := ev1.trans (by decide)
      refine lv_if_eq (tgt := 16) hx hb dX10_paste_5 (by decide) (fun c2 => False.elim (by revert c2; decide)) (fun c3 => ?_)
      refine lv_aload_n hx hb dX10_paste_8 rfl (lv_at hl 0 rfl) ?_
      refine lv_iload_n hx hb dX10_paste_9 rfl (lv_at hl 3 rfl) ?_
      refine behI (runVP (As := [.int a3]) (rest := []) ⟨hx, hb, hml, hown, ht⟩ (pX10_isSlot l G cs h q a3) okV_RX10_348 ⟨by decide, by decide⟩ hK hP [] rfl 0 rfl rfl hl.1 rfl (Nat.le_of_ble_eq_true rfl) dX10_paste_10 ⟨by decide, by decide⟩) hP hS (fun _ h => h) (fun H locs hP hS => ?_)
      refine lv_topi (fun v4 ev4 => ?_)
      obtain rfl : v4 = 0 := ev4.trans (spk_hi (by decide) hb2)
      refine lv_if_ne (tgt := 19) hx hb dX10_paste_13 (by decide) (fun c5 => False.elim (by revert c5; decide)) (fun c6 => ?_)
      refine lv_bipush (v := (-2)) hx hb dX10_paste_16 (by decide) ?_
      exact retPi hx hb hr hlk hS dX10_paste_18 ((show _ = spk 4 _ (spk 4 a3 (-6) (-2)) (-2) by rw [spk_hi (by decide) hb2]; decide))
    · refine mkP (Qc := QPi (spk 4 1 (spk 4 0 (-6) (-2)) (-2))) (by decide) (by simp [lg_sl, Value.category]) ?_
      intro p e s m args below meth c ls hx hb hml hr hlk hown ht hK hP hS hl
      have hl : lv_has ls 8 [(0, .ref h), (1, .int 1), (2, .int a2), (3, .int 0), (4, .int a4), (5, .int a5)] := hl
      refine lv_aload_n hx hb dX10_paste_0 rfl (lv_at hl 0 rfl) ?_
      refine lv_iload_n hx hb dX10_paste_1 rfl (lv_at hl 1 rfl) ?_
      refine behI (runVP (As := [.int 1]) (rest := []) ⟨hx, hb, hml, hown, ht⟩ (pX10_isSlot l G cs h q 1) okV_RX10_348 ⟨by decide, by decide⟩ hK hP [] rfl 0 rfl rfl hl.1 rfl (Nat.le_of_ble_eq_true rfl) dX10_paste_2 ⟨by decide, by decide⟩) hP hS (fun _ h => h) (fun H locs hP hS => ?_)
      refine lv_topi (fun v1 ev1 => ?_)
      obtain rfl : v1 = 1 := ev1.trans (by decide)
      refine lv_if_eq (tgt := 16) hx hb dX10_paste_5 (by decide) (fun c2 => False.elim (by revert c2; decide)) (fun c3 => ?_)
      refine lv_aload_n hx hb dX10_paste_8 rfl (lv_at hl 0 rfl) ?_
      refine lv_iload_n hx hb dX10_paste_9 rfl (lv_at hl 3 rfl) ?_
      refine behI (runVP (As := [.int 0]) (rest := []) ⟨hx, hb, hml, hown, ht⟩ (pX10_isSlot l G cs h q 0) okV_RX10_348 ⟨by decide, by decide⟩ hK hP [] rfl 0 rfl rfl hl.1 rfl (Nat.le_of_ble_eq_true rfl) dX10_paste_10 ⟨by decide, by decide⟩) hP hS (fun _ h => h) (fun H locs hP hS => ?_)
      refine lv_topi (fun v4 ev4 => ?_)
      obtain rfl : v4 = 1 := ev4.trans (by decide)
      refine lv_if_ne (tgt := 19) hx hb dX10_paste_13 (by decide) (fun c6 => ?_) (fun c5 => False.elim (by revert c5; decide))
      refine lv_aload_n hx hb dX10_paste_19 rfl (lv_at hl 0 rfl) ?_
      refine getF hx hb ht hown hK hP iTX10 0 5 rfl rfl (by decide) fl_RX10_41 rfl dX10_paste_20 ?_
      refine lv_iload_n hx hb dX10_paste_23 rfl (lv_at hl 1 rfl) ?_
      refine va_aldq hx hb hK.1 hP 1 5 rfl rfl (show ¬ (_ ∨ _) by decide) dX10_paste_24 ?_
      refine W.eq (g2 := F0 m 25 ls [.ref (q 56)]) rfl ?_
      refine lv_astore (lv' := [(6, .ref (q 56)), (0, .ref h), (1, .int 1), (2, .int a2), (3, .int 0), (4, .int a4), (5, .int a5)]) hx hb dX10_paste_25 hl (by decide) rfl (fun ls hl => ?_)
      refine lv_aload_n hx hb dX10_paste_27 rfl (lv_at hl 1 rfl) ?_
      refine getF hx hb ht hown hK hP iTX10 0 5 rfl rfl (by decide) fl_RX10_41 rfl dX10_paste_28 ?_
      refine lv_iload_n hx hb dX10_paste_31 rfl (lv_at hl 4 rfl) ?_
      refine va_aldq hx hb hK.1 hP 1 5 rfl rfl (show ¬ (_ ∨ _) by decide) dX10_paste_32 ?_
      refine W.eq (g2 := F0 m 33 ls [.ref (q 54)]) rfl ?_
      refine lv_astore (lv' := [(7, .ref (q 54)), (6, .ref (q 56)), (0, .ref h), (1, .int 1), (2, .int a2), (3, .int 0), (4, .int a4), (5, .int a5)]) hx hb dX10_paste_33 hl (by decide) rfl (fun ls hl => ?_)
      refine lv_aload hx hb dX10_paste_35 (lv_at hl 1 rfl) ?_
      refine getF hx hb ht hown hK hP iTX7 3 1 rfl rfl (by decide) fl_RX10_354 rfl dX10_paste_37 ?_
      refine lv_if_eq (tgt := 51) hx hb dX10_paste_40 (by decide) (fun c8 => ?_) (fun c7 => False.elim (by revert c7; decide))
      refine lv_bipush (v := (-6)) hx hb dX10_paste_51 (by decide) ?_
      exact retPi hx hb hr hlk hS dX10_paste_53 (by decide)
    · refine mkP (Qc := QPi (spk 4 1 (spk 4 1 (-6) (-2)) (-2))) (by decide) (by simp [lg_sl, Value.category]) ?_
      intro p e s m args below meth c ls hx hb hml hr hlk hown ht hK hP hS hl
      have hl : lv_has ls 8 [(0, .ref h), (1, .int 1), (2, .int a2), (3, .int 1), (4, .int a4), (5, .int a5)] := hl
      refine lv_aload_n hx hb dX10_paste_0 rfl (lv_at hl 0 rfl) ?_
      refine lv_iload_n hx hb dX10_paste_1 rfl (lv_at hl 1 rfl) ?_
      refine behI (runVP (As := [.int 1]) (rest := []) ⟨hx, hb, hml, hown, ht⟩ (pX10_isSlot l G cs h q 1) okV_RX10_348 ⟨by decide, by decide⟩ hK hP [] rfl 0 rfl rfl hl.1 rfl (Nat.le_of_ble_eq_true rfl) dX10_paste_2 ⟨by decide, by decide⟩) hP hS (fun _ h => h) (fun H locs hP hS => ?_)
      refine lv_topi (fun v1 ev1 => ?_)
      obtain rfl : v1 = 1 := ev1.trans (by decide)
      refine lv_if_eq (tgt := 16) hx hb dX10_paste_5 (by decide) (fun c2 => False.elim (by revert c2; decide)) (fun c3 => ?_)
      refine lv_aload_n hx hb dX10_paste_8 rfl (lv_at hl 0 rfl) ?_
      refine lv_iload_n hx hb dX10_paste_9 rfl (lv_at hl 3 rfl) ?_
      refine behI (runVP (As := [.int 1]) (rest := []) ⟨hx, hb, hml, hown, ht⟩ (pX10_isSlot l G cs h q 1) okV_RX10_348 ⟨by decide, by decide⟩ hK hP [] rfl 0 rfl rfl hl.1 rfl (Nat.le_of_ble_eq_true rfl) dX10_paste_10 ⟨by decide, by decide⟩) hP hS (fun _ h => h) (fun H locs hP hS => ?_)
      refine lv_topi (fun v4 ev4 => ?_)
      obtain rfl : v4 = 1 := ev4.trans (by decide)
      refine lv_if_ne (tgt := 19) hx hb dX10_paste_13 (by decide) (fun c6 => ?_) (fun c5 => False.elim (by revert c5; decide))
      refine lv_aload_n hx hb dX10_paste_19 rfl (lv_at hl 0 rfl) ?_
      refine getF hx hb ht hown hK hP iTX10 0 5 rfl rfl (by decide) fl_RX10_41 rfl dX10_paste_20 ?_
      refine lv_iload_n hx hb dX10_paste_23 rfl (lv_at hl 1 rfl) ?_
      refine va_aldq hx hb hK.1 hP 1 5 rfl rfl (show ¬ (_ ∨ _) by decide) dX10_paste_24 ?_
      refine W.eq (g2 := F0 m 25 ls [.ref (q 56)]) rfl ?_
      refine lv_astore (lv' := [(6, .ref (q 56)), (0, .ref h), (1, .int 1), (2, .int a2), (3, .int 1), (4, .int a4), (5, .int a5)]) hx hb dX10_paste_25 hl (by decide) rfl (fun ls hl => ?_)
      refine lv_aload_n hx hb dX10_paste_27 rfl (lv_at hl 1 rfl) ?_
      refine getF hx hb ht hown hK hP iTX10 0 5 rfl rfl (by decide) fl_RX10_41 rfl dX10_paste_28 ?_
      refine lv_iload_n hx hb dX10_paste_31 rfl (lv_at hl 4 rfl) ?_
      refine va_aldq hx hb hK.1 hP 1 5 rfl rfl (show ¬ (_ ∨ _) by decide) dX10_paste_32 ?_
      refine W.eq (g2 := F0 m 33 ls [.ref (q 56)]) rfl ?_
      refine lv_astore (lv' := [(7, .ref (q 56)), (6, .ref (q 56)), (0, .ref h), (1, .int 1), (2, .int a2), (3, .int 1), (4, .int a4), (5, .int a5)]) hx hb dX10_paste_33 hl (by decide) rfl (fun ls hl => ?_)
      refine lv_aload hx hb dX10_paste_35 (lv_at hl 1 rfl) ?_
      refine getF hx hb ht hown hK hP iTX7 3 1 rfl rfl (by decide) fl_RX10_354 rfl dX10_paste_37 ?_
      refine lv_if_eq (tgt := 51) hx hb dX10_paste_40 (by decide) (fun c8 => ?_) (fun c7 => False.elim (by revert c7; decide))
      refine lv_bipush (v := (-6)) hx hb dX10_paste_51 (by decide) ?_
      exact retPi hx hb hr hlk hS dX10_paste_53 (by decide)
    · refine mkP (Qc := QPi (spk 4 1 (spk 4 2 (-6) (-2)) (-2))) (by decide) (by simp [lg_sl, Value.category]) ?_
      intro p e s m args below meth c ls hx hb hml hr hlk hown ht hK hP hS hl
      have hl : lv_has ls 8 [(0, .ref h), (1, .int 1), (2, .int a2), (3, .int 2), (4, .int a4), (5, .int a5)] := hl
      refine lv_aload_n hx hb dX10_paste_0 rfl (lv_at hl 0 rfl) ?_
      refine lv_iload_n hx hb dX10_paste_1 rfl (lv_at hl 1 rfl) ?_
      refine behI (runVP (As := [.int 1]) (rest := []) ⟨hx, hb, hml, hown, ht⟩ (pX10_isSlot l G cs h q 1) okV_RX10_348 ⟨by decide, by decide⟩ hK hP [] rfl 0 rfl rfl hl.1 rfl (Nat.le_of_ble_eq_true rfl) dX10_paste_2 ⟨by decide, by decide⟩) hP hS (fun _ h => h) (fun H locs hP hS => ?_)
      refine lv_topi (fun v1 ev1 => ?_)
      obtain rfl : v1 = 1 := ev1.trans (by decide)
      refine lv_if_eq (tgt := 16) hx hb dX10_paste_5 (by decide) (fun c2 => False.elim (by revert c2; decide)) (fun c3 => ?_)
      refine lv_aload_n hx hb dX10_paste_8 rfl (lv_at hl 0 rfl) ?_
      refine lv_iload_n hx hb dX10_paste_9 rfl (lv_at hl 3 rfl) ?_
      refine behI (runVP (As := [.int 2]) (rest := []) ⟨hx, hb, hml, hown, ht⟩ (pX10_isSlot l G cs h q 2) okV_RX10_348 ⟨by decide, by decide⟩ hK hP [] rfl 0 rfl rfl hl.1 rfl (Nat.le_of_ble_eq_true rfl) dX10_paste_10 ⟨by decide, by decide⟩) hP hS (fun _ h => h) (fun H locs hP hS => ?_)
      refine lv_topi (fun v4 ev4 => ?_)
      obtain rfl : v4 = 1 := ev4.trans (by decide)
      refine lv_if_ne (tgt := 19) hx hb dX10_paste_13 (by decide) (fun c6 => ?_) (fun c5 => False.elim (by revert c5; decide))
      refine lv_aload_n hx hb dX10_paste_19 rfl (lv_at hl 0 rfl) ?_
      refine getF hx hb ht hown hK hP iTX10 0 5 rfl rfl (by decide) fl_RX10_41 rfl dX10_paste_20 ?_
      refine lv_iload_n hx hb dX10_paste_23 rfl (lv_at hl 1 rfl) ?_
      refine va_aldq hx hb hK.1 hP 1 5 rfl rfl (show ¬ (_ ∨ _) by decide) dX10_paste_24 ?_
      refine W.eq (g2 := F0 m 25 ls [.ref (q 56)]) rfl ?_
      refine lv_astore (lv' := [(6, .ref (q 56)), (0, .ref h), (1, .int 1), (2, .int a2), (3, .int 2), (4, .int a4), (5, .int a5)]) hx hb dX10_paste_25 hl (by decide) rfl (fun ls hl => ?_)
      refine lv_aload_n hx hb dX10_paste_27 rfl (lv_at hl 1 rfl) ?_
      refine getF hx hb ht hown hK hP iTX10 0 5 rfl rfl (by decide) fl_RX10_41 rfl dX10_paste_28 ?_
      refine lv_iload_n hx hb dX10_paste_31 rfl (lv_at hl 4 rfl) ?_
      refine va_aldq hx hb hK.1 hP 1 5 rfl rfl (show ¬ (_ ∨ _) by decide) dX10_paste_32 ?_
      refine W.eq (g2 := F0 m 33 ls [.ref (q 58)]) rfl ?_
      refine lv_astore (lv' := [(7, .ref (q 58)), (6, .ref (q 56)), (0, .ref h), (1, .int 1), (2, .int a2), (3, .int 2), (4, .int a4), (5, .int a5)]) hx hb dX10_paste_33 hl (by decide) rfl (fun ls hl => ?_)
      refine lv_aload hx hb dX10_paste_35 (lv_at hl 1 rfl) ?_
      refine getF hx hb ht hown hK hP iTX7 3 1 rfl rfl (by decide) fl_RX10_354 rfl dX10_paste_37 ?_
      refine lv_if_eq (tgt := 51) hx hb dX10_paste_40 (by decide) (fun c8 => ?_) (fun c7 => False.elim (by revert c7; decide))
      refine lv_bipush (v := (-6)) hx hb dX10_paste_51 (by decide) ?_
      exact retPi hx hb hr hlk hS dX10_paste_53 (by decide)
    · refine mkP (Qc := QPi (spk 4 1 (spk 4 3 (-6) (-2)) (-2))) (by decide) (by simp [lg_sl, Value.category]) ?_
      intro p e s m args below meth c ls hx hb hml hr hlk hown ht hK hP hS hl
      have hl : lv_has ls 8 [(0, .ref h), (1, .int 1), (2, .int a2), (3, .int 3), (4, .int a4), (5, .int a5)] := hl
      refine lv_aload_n hx hb dX10_paste_0 rfl (lv_at hl 0 rfl) ?_
      refine lv_iload_n hx hb dX10_paste_1 rfl (lv_at hl 1 rfl) ?_
      refine behI (runVP (As := [.int 1]) (rest := []) ⟨hx, hb, hml, hown, ht⟩ (pX10_isSlot l G cs h q 1) okV_RX10_348 ⟨by decide, by decide⟩ hK hP [] rfl 0 rfl rfl hl.1 rfl (Nat.le_of_ble_eq_true rfl) dX10_paste_2 ⟨by decide, by decide⟩) hP hS (fun _ h => h) (fun H locs hP hS => ?_)
      refine lv_topi (fun v1 ev1 => ?_)
      obtain rfl : v1 = 1 := ev1.trans (by decide)
      refine lv_if_eq (tgt := 16) hx hb dX10_paste_5 (by decide) (fun c2 => False.elim (by revert c2; decide)) (fun c3 => ?_)
      refine lv_aload_n hx hb dX10_paste_8 rfl (lv_at hl 0 rfl) ?_
      refine lv_iload_n hx hb dX10_paste_9 rfl (lv_at hl 3 rfl) ?_
      refine behI (runVP (As := [.int 3]) (rest := []) ⟨hx, hb, hml, hown, ht⟩ (pX10_isSlot l G cs h q 3) okV_RX10_348 ⟨by decide, by decide⟩ hK hP [] rfl 0 rfl rfl hl.1 rfl (Nat.le_of_ble_eq_true rfl) dX10_paste_10 ⟨by decide, by decide⟩) hP hS (fun _ h => h) (fun H locs hP hS => ?_)
      refine lv_topi (fun v4 ev4 => ?_)
      obtain rfl : v4 = 1 := ev4.trans (by decide)
      refine lv_if_ne (tgt := 19) hx hb dX10_paste_13 (by decide) (fun c6 => ?_) (fun c5 => False.elim (by revert c5; decide))
      refine lv_aload_n hx hb dX10_paste_19 rfl (lv_at hl 0 rfl) ?_
      refine getF hx hb ht hown hK hP iTX10 0 5 rfl rfl (by decide) fl_RX10_41 rfl dX10_paste_20 ?_
      refine lv_iload_n hx hb dX10_paste_23 rfl (lv_at hl 1 rfl) ?_
      refine va_aldq hx hb hK.1 hP 1 5 rfl rfl (show ¬ (_ ∨ _) by decide) dX10_paste_24 ?_
      refine W.eq (g2 := F0 m 25 ls [.ref (q 56)]) rfl ?_
      refine lv_astore (lv' := [(6, .ref (q 56)), (0, .ref h), (1, .int 1), (2, .int a2), (3, .int 3), (4, .int a4), (5, .int a5)]) hx hb dX10_paste_25 hl (by decide) rfl (fun ls hl => ?_)
      refine lv_aload_n hx hb dX10_paste_27 rfl (lv_at hl 1 rfl) ?_
      refine getF hx hb ht hown hK hP iTX10 0 5 rfl rfl (by decide) fl_RX10_41 rfl dX10_paste_28 ?_
      refine lv_iload_n hx hb dX10_paste_31 rfl (lv_at hl 4 rfl) ?_
      refine va_aldq hx hb hK.1 hP 1 5 rfl rfl (show ¬ (_ ∨ _) by decide) dX10_paste_32 ?_
      refine W.eq (g2 := F0 m 33 ls [.ref (q 60)]) rfl ?_
      refine lv_astore (lv' := [(7, .ref (q 60)), (6, .ref (q 56)), (0, .ref h), (1, .int 1), (2, .int a2), (3, .int 3), (4, .int a4), (5, .int a5)]) hx hb dX10_paste_33 hl (by decide) rfl (fun ls hl => ?_)
      refine lv_aload hx hb dX10_paste_35 (lv_at hl 1 rfl) ?_
      refine getF hx hb ht hown hK hP iTX7 3 1 rfl rfl (by decide) fl_RX10_354 rfl dX10_paste_37 ?_
      refine lv_if_eq (tgt := 51) hx hb dX10_paste_40 (by decide) (fun c8 => ?_) (fun c7 => False.elim (by revert c7; decide))
      refine lv_bipush (v := (-6)) hx hb dX10_paste_51 (by decide) ?_
      exact retPi hx hb hr hlk hS dX10_paste_53 (by decide)
  · rcases cs4 a3 with hn2 | hb2 | rfl | rfl | rfl | rfl
    · refine mkP (Qc := QPi (spk 4 2 (spk 4 a3 (-6) (-2)) (-2))) (by decide) (by simp [lg_sl, Value.category]) ?_
      intro p e s m args below meth c ls hx hb hml hr hlk hown ht hK hP hS hl
      have hl : lv_has ls 8 [(0, .ref h), (1, .int 2), (2, .int a2), (3, .int a3), (4, .int a4), (5, .int a5)] := hl
      refine lv_aload_n hx hb dX10_paste_0 rfl (lv_at hl 0 rfl) ?_
      refine lv_iload_n hx hb dX10_paste_1 rfl (lv_at hl 1 rfl) ?_
      refine behI (runVP (As := [.int 2]) (rest := []) ⟨hx, hb, hml, hown, ht⟩ (pX10_isSlot l G cs h q 2) okV_RX10_348 ⟨by decide, by decide⟩ hK hP [] rfl 0 rfl rfl hl.1 rfl (Nat.le_of_ble_eq_true rfl) dX10_paste_2 ⟨by decide, by decide⟩) hP hS (fun _ h => h) (fun H locs hP hS => ?_)
      refine lv_topi (fun v1 ev1 => ?_)
      obtain rfl : v1 = 1 := ev1.trans (by decide)
      refine lv_if_eq (tgt := 16) hx hb dX10_paste_5 (by decide) (fun c2 => False.elim (by revert c2; decide)) (fun c3 => ?_)
      refine lv_aload_n hx hb dX10_paste_8 rfl (lv_at hl 0 rfl) ?_
      refine lv_iload_n hx hb dX10_paste_9 rfl (lv_at hl 3 rfl) ?_
      refine behI (runVP (As := [.int a3]) (rest := []) ⟨hx, hb, hml, hown, ht⟩ (pX10_isSlot l G cs h q a3) okV_RX10_348 ⟨by decide, by decide⟩ hK hP [] rfl 0 rfl rfl hl.1 rfl (Nat.le_of_ble_eq_true rfl) dX10_paste_10 ⟨by decide, by decide⟩) hP hS (fun _ h => h) (fun H locs hP hS => ?_)
      refine lv_topi (fun v4 ev4 => ?_)
      obtain rfl : v4 = 0 := ev4.trans (spk_lo hn2)
      refine lv_if_ne (tgt := 19) hx hb dX10_paste_13 (by decide) (fun c5 => False.elim (by revert c5; decide)) (fun c6 => ?_)
      refine lv_bipush (v := (-2)) hx hb dX10_paste_16 (by decide) ?_
      exact retPi hx hb hr hlk hS dX10_paste_18 ((show _ = spk 4 _ (spk 4 a3 (-6) (-2)) (-2) by rw [spk_lo hn2]; decide))
    · refine mkP (Qc := QPi (spk 4 2 (spk 4 a3 (-6) (-2)) (-2))) (by decide) (by simp [lg_sl, Value.category]) ?_
      intro p e s m args below meth c ls hx hb hml hr hlk hown ht hK hP hS hl
      have hl : lv_has ls 8 [(0, .ref h), (1, .int 2), (2, .int a2), (3, .int a3), (4, .int a4), (5, .int a5)] := hl
      refine lv_aload_n hx hb dX10_paste_0 rfl (lv_at hl 0 rfl) ?_
      refine lv_iload_n hx hb dX10_paste_1 rfl (lv_at hl 1 rfl) ?_
      refine behI (runVP (As := [.int 2]) (rest := []) ⟨hx, hb, hml, hown, ht⟩ (pX10_isSlot l G cs h q 2) okV_RX10_348 ⟨by decide, by decide⟩ hK hP [] rfl 0 rfl rfl hl.1 rfl (Nat.le_of_ble_eq_true rfl) dX10_paste_2 ⟨by decide, by decide⟩) hP hS (fun _ h => h) (fun H locs hP hS => ?_)
      refine lv_topi (fun v1 ev1 => ?_)
      obtain rfl : v1 = 1 := ev1.trans (by decide)
      refine lv_if_eq (tgt := 16) hx hb dX10_paste_5 (by decide) (fun c2 => False.elim (by revert c2; decide)) (fun c3 => ?_)
      refine lv_aload_n hx hb dX10_paste_8 rfl (lv_at hl 0 rfl) ?_
      refine lv_iload_n hx hb dX10_paste_9 rfl (lv_at hl 3 rfl) ?_
      refine behI (runVP (As := [.int a3]) (rest := []) ⟨hx, hb, hml, hown, ht⟩ (pX10_isSlot l G cs h q a3) okV_RX10_348 ⟨by decide, by decide⟩ hK hP [] rfl 0 rfl rfl hl.1 rfl (Nat.le_of_ble_eq_true rfl) dX10_paste_10 ⟨by decide, by decide⟩) hP hS (fun _ h => h) (fun H locs hP hS => ?_)
      refine lv_topi (fun v4 ev4 => ?_)
      obtain rfl : v4 = 0 := ev4.trans (spk_hi (by decide) hb2)
      refine lv_if_ne (tgt := 19) hx hb dX10_paste_13 (by decide) (fun c5 => False.elim (by revert c5; decide)) (fun c6 => ?_)
      refine lv_bipush (v := (-2)) hx hb dX10_paste_16 (by decide) ?_
      exact retPi hx hb hr hlk hS dX10_paste_18 ((show _ = spk 4 _ (spk 4 a3 (-6) (-2)) (-2) by rw [spk_hi (by decide) hb2]; decide))
    · refine mkP (Qc := QPi (spk 4 2 (spk 4 0 (-6) (-2)) (-2))) (by decide) (by simp [lg_sl, Value.category]) ?_
      intro p e s m args below meth c ls hx hb hml hr hlk hown ht hK hP hS hl
      have hl : lv_has ls 8 [(0, .ref h), (1, .int 2), (2, .int a2), (3, .int 0), (4, .int a4), (5, .int a5)] := hl
      refine lv_aload_n hx hb dX10_paste_0 rfl (lv_at hl 0 rfl) ?_
      refine lv_iload_n hx hb dX10_paste_1 rfl (lv_at hl 1 rfl) ?_
      refine behI (runVP (As := [.int 2]) (rest := []) ⟨hx, hb, hml, hown, ht⟩ (pX10_isSlot l G cs h q 2) okV_RX10_348 ⟨by decide, by decide⟩ hK hP [] rfl 0 rfl rfl hl.1 rfl (Nat.le_of_ble_eq_true rfl) dX10_paste_2 ⟨by decide, by decide⟩) hP hS (fun _ h => h) (fun H locs hP hS => ?_)
      refine lv_topi (fun v1 ev1 => ?_)
      obtain rfl : v1 = 1 := ev1.trans (by decide)
      refine lv_if_eq (tgt := 16) hx hb dX10_paste_5 (by decide) (fun c2 => False.elim (by revert c2; decide)) (fun c3 => ?_)
      refine lv_aload_n hx hb dX10_paste_8 rfl (lv_at hl 0 rfl) ?_
      refine lv_iload_n hx hb dX10_paste_9 rfl (lv_at hl 3 rfl) ?_
      refine behI (runVP (As := [.int 0]) (rest := []) ⟨hx, hb, hml, hown, ht⟩ (pX10_isSlot l G cs h q 0) okV_RX10_348 ⟨by decide, by decide⟩ hK hP [] rfl 0 rfl rfl hl.1 rfl (Nat.le_of_ble_eq_true rfl) dX10_paste_10 ⟨by decide, by decide⟩) hP hS (fun _ h => h) (fun H locs hP hS => ?_)
      refine lv_topi (fun v4 ev4 => ?_)
      obtain rfl : v4 = 1 := ev4.trans (by decide)
      refine lv_if_ne (tgt := 19) hx hb dX10_paste_13 (by decide) (fun c6 => ?_) (fun c5 => False.elim (by revert c5; decide))
      refine lv_aload_n hx hb dX10_paste_19 rfl (lv_at hl 0 rfl) ?_
      refine getF hx hb ht hown hK hP iTX10 0 5 rfl rfl (by decide) fl_RX10_41 rfl dX10_paste_20 ?_
      refine lv_iload_n hx hb dX10_paste_23 rfl (lv_at hl 1 rfl) ?_
      refine va_aldq hx hb hK.1 hP 1 5 rfl rfl (show ¬ (_ ∨ _) by decide) dX10_paste_24 ?_
      refine W.eq (g2 := F0 m 25 ls [.ref (q 58)]) rfl ?_
      refine lv_astore (lv' := [(6, .ref (q 58)), (0, .ref h), (1, .int 2), (2, .int a2), (3, .int 0), (4, .int a4), (5, .int a5)]) hx hb dX10_paste_25 hl (by decide) rfl (fun ls hl => ?_)
      refine lv_aload_n hx hb dX10_paste_27 rfl (lv_at hl 1 rfl) ?_
      refine getF hx hb ht hown hK hP iTX10 0 5 rfl rfl (by decide) fl_RX10_41 rfl dX10_paste_28 ?_
      refine lv_iload_n hx hb dX10_paste_31 rfl (lv_at hl 4 rfl) ?_
      refine va_aldq hx hb hK.1 hP 1 5 rfl rfl (show ¬ (_ ∨ _) by decide) dX10_paste_32 ?_
      refine W.eq (g2 := F0 m 33 ls [.ref (q 54)]) rfl ?_
      refine lv_astore (lv' := [(7, .ref (q 54)), (6, .ref (q 58)), (0, .ref h), (1, .int 2), (2, .int a2), (3, .int 0), (4, .int a4), (5, .int a5)]) hx hb dX10_paste_33 hl (by decide) rfl (fun ls hl => ?_)
      refine lv_aload hx hb dX10_paste_35 (lv_at hl 1 rfl) ?_
      refine getF hx hb ht hown hK hP iTX7 4 1 rfl rfl (by decide) fl_RX10_354 rfl dX10_paste_37 ?_
      refine lv_if_eq (tgt := 51) hx hb dX10_paste_40 (by decide) (fun c8 => ?_) (fun c7 => False.elim (by revert c7; decide))
      refine lv_bipush (v := (-6)) hx hb dX10_paste_51 (by decide) ?_
      exact retPi hx hb hr hlk hS dX10_paste_53 (by decide)
    · refine mkP (Qc := QPi (spk 4 2 (spk 4 1 (-6) (-2)) (-2))) (by decide) (by simp [lg_sl, Value.category]) ?_
      intro p e s m args below meth c ls hx hb hml hr hlk hown ht hK hP hS hl
      have hl : lv_has ls 8 [(0, .ref h), (1, .int 2), (2, .int a2), (3, .int 1), (4, .int a4), (5, .int a5)] := hl
      refine lv_aload_n hx hb dX10_paste_0 rfl (lv_at hl 0 rfl) ?_
      refine lv_iload_n hx hb dX10_paste_1 rfl (lv_at hl 1 rfl) ?_
      refine behI (runVP (As := [.int 2]) (rest := []) ⟨hx, hb, hml, hown, ht⟩ (pX10_isSlot l G cs h q 2) okV_RX10_348 ⟨by decide, by decide⟩ hK hP [] rfl 0 rfl rfl hl.1 rfl (Nat.le_of_ble_eq_true rfl) dX10_paste_2 ⟨by decide, by decide⟩) hP hS (fun _ h => h) (fun H locs hP hS => ?_)
      refine lv_topi (fun v1 ev1 => ?_)
      obtain rfl : v1 = 1 := ev1.trans (by decide)
      refine lv_if_eq (tgt := 16) hx hb dX10_paste_5 (by decide) (fun c2 => False.elim (by revert c2; decide)) (fun c3 => ?_)
      refine lv_aload_n hx hb dX10_paste_8 rfl (lv_at hl 0 rfl) ?_
      refine lv_iload_n hx hb dX10_paste_9 rfl (lv_at hl 3 rfl) ?_
      refine behI (runVP (As := [.int 1]) (rest := []) ⟨hx, hb, hml, hown, ht⟩ (pX10_isSlot l G cs h q 1) okV_RX10_348 ⟨by decide, by decide⟩ hK hP [] rfl 0 rfl rfl hl.1 rfl (Nat.le_of_ble_eq_true rfl) dX10_paste_10 ⟨by decide, by decide⟩) hP hS (fun _ h => h) (fun H locs hP hS => ?_)
      refine lv_topi (fun v4 ev4 => ?_)
      obtain rfl : v4 = 1 := ev4.trans (by decide)
      refine lv_if_ne (tgt := 19) hx hb dX10_paste_13 (by decide) (fun c6 => ?_) (fun c5 => False.elim (by revert c5; decide))
      refine lv_aload_n hx hb dX10_paste_19 rfl (lv_at hl 0 rfl) ?_
      refine getF hx hb ht hown hK hP iTX10 0 5 rfl rfl (by decide) fl_RX10_41 rfl dX10_paste_20 ?_
      refine lv_iload_n hx hb dX10_paste_23 rfl (lv_at hl 1 rfl) ?_
      refine va_aldq hx hb hK.1 hP 1 5 rfl rfl (show ¬ (_ ∨ _) by decide) dX10_paste_24 ?_
      refine W.eq (g2 := F0 m 25 ls [.ref (q 58)]) rfl ?_
      refine lv_astore (lv' := [(6, .ref (q 58)), (0, .ref h), (1, .int 2), (2, .int a2), (3, .int 1), (4, .int a4), (5, .int a5)]) hx hb dX10_paste_25 hl (by decide) rfl (fun ls hl => ?_)
      refine lv_aload_n hx hb dX10_paste_27 rfl (lv_at hl 1 rfl) ?_
      refine getF hx hb ht hown hK hP iTX10 0 5 rfl rfl (by decide) fl_RX10_41 rfl dX10_paste_28 ?_
      refine lv_iload_n hx hb dX10_paste_31 rfl (lv_at hl 4 rfl) ?_
      refine va_aldq hx hb hK.1 hP 1 5 rfl rfl (show ¬ (_ ∨ _) by decide) dX10_paste_32 ?_
      refine W.eq (g2 := F0 m 33 ls [.ref (q 56)]) rfl ?_
      refine lv_astore (lv' := [(7, .ref (q 56)), (6, .ref (q 58)), (0, .ref h), (1, .int 2), (2, .int a2), (3, .int 1), (4, .int a4), (5, .int a5)]) hx hb dX10_paste_33 hl (by decide) rfl (fun ls hl => ?_)
      refine lv_aload hx hb dX10_paste_35 (lv_at hl 1 rfl) ?_
      refine getF hx hb ht hown hK hP iTX7 4 1 rfl rfl (by decide) fl_RX10_354 rfl dX10_paste_37 ?_
      refine lv_if_eq (tgt := 51) hx hb dX10_paste_40 (by decide) (fun c8 => ?_) (fun c7 => False.elim (by revert c7; decide))
      refine lv_bipush (v := (-6)) hx hb dX10_paste_51 (by decide) ?_
      exact retPi hx hb hr hlk hS dX10_paste_53 (by decide)
    · refine mkP (Qc := QPi (spk 4 2 (spk 4 2 (-6) (-2)) (-2))) (by decide) (by simp [lg_sl, Value.category]) ?_
      intro p e s m args below meth c ls hx hb hml hr hlk hown ht hK hP hS hl
      have hl : lv_has ls 8 [(0, .ref h), (1, .int 2), (2, .int a2), (3, .int 2), (4, .int a4), (5, .int a5)] := hl
      refine lv_aload_n hx hb dX10_paste_0 rfl (lv_at hl 0 rfl) ?_
      refine lv_iload_n hx hb dX10_paste_1 rfl (lv_at hl 1 rfl) ?_
      refine behI (runVP (As := [.int 2]) (rest := []) ⟨hx, hb, hml, hown, ht⟩ (pX10_isSlot l G cs h q 2) okV_RX10_348 ⟨by decide, by decide⟩ hK hP [] rfl 0 rfl rfl hl.1 rfl (Nat.le_of_ble_eq_true rfl) dX10_paste_2 ⟨by decide, by decide⟩) hP hS (fun _ h => h) (fun H locs hP hS => ?_)
      refine lv_topi (fun v1 ev1 => ?_)
      obtain rfl : v1 = 1 := ev1.trans (by decide)
      refine lv_if_eq (tgt := 16) hx hb dX10_paste_5 (by decide) (fun c2 => False.elim (by revert c2; decide)) (fun c3 => ?_)
      refine lv_aload_n hx hb dX10_paste_8 rfl (lv_at hl 0 rfl) ?_
      refine lv_iload_n hx hb dX10_paste_9 rfl (lv_at hl 3 rfl) ?_
      refine behI (runVP (As := [.int 2]) (rest := []) ⟨hx, hb, hml, hown, ht⟩ (pX10_isSlot l G cs h q 2) okV_RX10_348 ⟨by decide, by decide⟩ hK hP [] rfl 0 rfl rfl hl.1 rfl (Nat.le_of_ble_eq_true rfl) dX10_paste_10 ⟨by decide, by decide⟩) hP hS (fun _ h => h) (fun H locs hP hS => ?_)
      refine lv_topi (fun v4 ev4 => ?_)
      obtain rfl : v4 = 1 := ev4.trans (by decide)
      refine lv_if_ne (tgt := 19) hx hb dX10_paste_13 (by decide) (fun c6 => ?_) (fun c5 => False.elim (by revert c5; decide))
      refine lv_aload_n hx hb dX10_paste_19 rfl (lv_at hl 0 rfl) ?_
      refine getF hx hb ht hown hK hP iTX10 0 5 rfl rfl (by decide) fl_RX10_41 rfl dX10_paste_20 ?_
      refine lv_iload_n hx hb dX10_paste_23 rfl (lv_at hl 1 rfl) ?_
      refine va_aldq hx hb hK.1 hP 1 5 rfl rfl (show ¬ (_ ∨ _) by decide) dX10_paste_24 ?_
      refine W.eq (g2 := F0 m 25 ls [.ref (q 58)]) rfl ?_
      refine lv_astore (lv' := [(6, .ref (q 58)), (0, .ref h), (1, .int 2), (2, .int a2), (3, .int 2), (4, .int a4), (5, .int a5)]) hx hb dX10_paste_25 hl (by decide) rfl (fun ls hl => ?_)
      refine lv_aload_n hx hb dX10_paste_27 rfl (lv_at hl 1 rfl) ?_
      refine getF hx hb ht hown hK hP iTX10 0 5 rfl rfl (by decide) fl_RX10_41 rfl dX10_paste_28 ?_
      refine lv_iload_n hx hb dX10_paste_31 rfl (lv_at hl 4 rfl) ?_
      refine va_aldq hx hb hK.1 hP 1 5 rfl rfl (show ¬ (_ ∨ _) by decide) dX10_paste_32 ?_
      refine W.eq (g2 := F0 m 33 ls [.ref (q 58)]) rfl ?_
      refine lv_astore (lv' := [(7, .ref (q 58)), (6, .ref (q 58)), (0, .ref h), (1, .int 2), (2, .int a2), (3, .int 2), (4, .int a4), (5, .int a5)]) hx hb dX10_paste_33 hl (by decide) rfl (fun ls hl => ?_)
      refine lv_aload hx hb dX10_paste_35 (lv_at hl 1 rfl) ?_
      refine getF hx hb ht hown hK hP iTX7 4 1 rfl rfl (by decide) fl_RX10_354 rfl dX10_paste_37 ?_
      refine lv_if_eq (tgt := 51) hx hb dX10_paste_40 (by decide) (fun c8 => ?_) (fun c7 => False.elim (by revert c7; decide))
      refine lv_bipush (v := (-6)) hx hb dX10_paste_51 (by decide) ?_
      exact retPi hx hb hr hlk hS dX10_paste_53 (by decide)
    · refine mkP (Qc := QPi (spk 4 2 (spk 4 3 (-6) (-2)) (-2))) (by decide) (by simp [lg_sl, Value.category]) ?_
      intro p e s m args below meth c ls hx hb hml hr hlk hown ht hK hP hS hl
      have hl : lv_has ls 8 [(0, .ref h), (1, .int 2), (2, .int a2), (3, .int 3), (4, .int a4), (5, .int a5)] := hl
      refine lv_aload_n hx hb dX10_paste_0 rfl (lv_at hl 0 rfl) ?_
      refine lv_iload_n hx hb dX10_paste_1 rfl (lv_at hl 1 rfl) ?_
      refine behI (runVP (As := [.int 2]) (rest := []) ⟨hx, hb, hml, hown, ht⟩ (pX10_isSlot l G cs h q 2) okV_RX10_348 ⟨by decide, by decide⟩ hK hP [] rfl 0 rfl rfl hl.1 rfl (Nat.le_of_ble_eq_true rfl) dX10_paste_2 ⟨by decide, by decide⟩) hP hS (fun _ h => h) (fun H locs hP hS => ?_)
      refine lv_topi (fun v1 ev1 => ?_)
      obtain rfl : v1 = 1 := ev1.trans (by decide)
      refine lv_if_eq (tgt := 16) hx hb dX10_paste_5 (by decide) (fun c2 => False.elim (by revert c2; decide)) (fun c3 => ?_)
      refine lv_aload_n hx hb dX10_paste_8 rfl (lv_at hl 0 rfl) ?_
      refine lv_iload_n hx hb dX10_paste_9 rfl (lv_at hl 3 rfl) ?_
      refine behI (runVP (As := [.int 3]) (rest := []) ⟨hx, hb, hml, hown, ht⟩ (pX10_isSlot l G cs h q 3) okV_RX10_348 ⟨by decide, by decide⟩ hK hP [] rfl 0 rfl rfl hl.1 rfl (Nat.le_of_ble_eq_true rfl) dX10_paste_10 ⟨by decide, by decide⟩) hP hS (fun _ h => h) (fun H locs hP hS => ?_)
      refine lv_topi (fun v4 ev4 => ?_)
      obtain rfl : v4 = 1 := ev4.trans (by decide)
      refine lv_if_ne (tgt := 19) hx hb dX10_paste_13 (by decide) (fun c6 => ?_) (fun c5 => False.elim (by revert c5; decide))
      refine lv_aload_n hx hb dX10_paste_19 rfl (lv_at hl 0 rfl) ?_
      refine getF hx hb ht hown hK hP iTX10 0 5 rfl rfl (by decide) fl_RX10_41 rfl dX10_paste_20 ?_
      refine lv_iload_n hx hb dX10_paste_23 rfl (lv_at hl 1 rfl) ?_
      refine va_aldq hx hb hK.1 hP 1 5 rfl rfl (show ¬ (_ ∨ _) by decide) dX10_paste_24 ?_
      refine W.eq (g2 := F0 m 25 ls [.ref (q 58)]) rfl ?_
      refine lv_astore (lv' := [(6, .ref (q 58)), (0, .ref h), (1, .int 2), (2, .int a2), (3, .int 3), (4, .int a4), (5, .int a5)]) hx hb dX10_paste_25 hl (by decide) rfl (fun ls hl => ?_)
      refine lv_aload_n hx hb dX10_paste_27 rfl (lv_at hl 1 rfl) ?_
      refine getF hx hb ht hown hK hP iTX10 0 5 rfl rfl (by decide) fl_RX10_41 rfl dX10_paste_28 ?_
      refine lv_iload_n hx hb dX10_paste_31 rfl (lv_at hl 4 rfl) ?_
      refine va_aldq hx hb hK.1 hP 1 5 rfl rfl (show ¬ (_ ∨ _) by decide) dX10_paste_32 ?_
      refine W.eq (g2 := F0 m 33 ls [.ref (q 60)]) rfl ?_
      refine lv_astore (lv' := [(7, .ref (q 60)), (6, .ref (q 58)), (0, .ref h), (1, .int 2), (2, .int a2), (3, .int 3), (4, .int a4), (5, .int a5)]) hx hb dX10_paste_33 hl (by decide) rfl (fun ls hl => ?_)
      refine lv_aload hx hb dX10_paste_35 (lv_at hl 1 rfl) ?_
      refine getF hx hb ht hown hK hP iTX7 4 1 rfl rfl (by decide) fl_RX10_354 rfl dX10_paste_37 ?_
      refine lv_if_eq (tgt := 51) hx hb dX10_paste_40 (by decide) (fun c8 => ?_) (fun c7 => False.elim (by revert c7; decide))
      refine lv_bipush (v := (-6)) hx hb dX10_paste_51 (by decide) ?_
      exact retPi hx hb hr hlk hS dX10_paste_53 (by decide)
  · rcases cs4 a3 with hn2 | hb2 | rfl | rfl | rfl | rfl
    · refine mkP (Qc := QPi (spk 4 3 (spk 4 a3 (-6) (-2)) (-2))) (by decide) (by simp [lg_sl, Value.category]) ?_
      intro p e s m args below meth c ls hx hb hml hr hlk hown ht hK hP hS hl
      have hl : lv_has ls 8 [(0, .ref h), (1, .int 3), (2, .int a2), (3, .int a3), (4, .int a4), (5, .int a5)] := hl
      refine lv_aload_n hx hb dX10_paste_0 rfl (lv_at hl 0 rfl) ?_
      refine lv_iload_n hx hb dX10_paste_1 rfl (lv_at hl 1 rfl) ?_
      refine behI (runVP (As := [.int 3]) (rest := []) ⟨hx, hb, hml, hown, ht⟩ (pX10_isSlot l G cs h q 3) okV_RX10_348 ⟨by decide, by decide⟩ hK hP [] rfl 0 rfl rfl hl.1 rfl (Nat.le_of_ble_eq_true rfl) dX10_paste_2 ⟨by decide, by decide⟩) hP hS (fun _ h => h) (fun H locs hP hS => ?_)
      refine lv_topi (fun v1 ev1 => ?_)
      obtain rfl : v1 = 1 := ev1.trans (by decide)
      refine lv_if_eq (tgt := 16) hx hb dX10_paste_5 (by decide) (fun c2 => False.elim (by revert c2; decide)) (fun c3 => ?_)
      refine lv_aload_n hx hb dX10_paste_8 rfl (lv_at hl 0 rfl) ?_
      refine lv_iload_n hx hb dX10_paste_9 rfl (lv_at hl 3 rfl) ?_
      refine behI (runVP (As := [.int a3]) (rest := []) ⟨hx, hb, hml, hown, ht⟩ (pX10_isSlot l G cs h q a3) okV_RX10_348 ⟨by decide, by decide⟩ hK hP [] rfl 0 rfl rfl hl.1 rfl (Nat.le_of_ble_eq_true rfl) dX10_paste_10 ⟨by decide, by decide⟩) hP hS (fun _ h => h) (fun H locs hP hS => ?_)
      refine lv_topi (fun v4 ev4 => ?_)
      obtain rfl : v4 = 0 := ev4.trans (spk_lo hn2)
      refine lv_if_ne (tgt := 19) hx hb dX10_paste_13 (by decide) (fun c5 => False.elim (by revert c5; decide)) (fun c6 => ?_)
      refine lv_bipush (v := (-2)) hx hb dX10_paste_16 (by decide) ?_
      exact retPi hx hb hr hlk hS dX10_paste_18 ((show _ = spk 4 _ (spk 4 a3 (-6) (-2)) (-2) by rw [spk_lo hn2]; decide))
    · refine mkP (Qc := QPi (spk 4 3 (spk 4 a3 (-6) (-2)) (-2))) (by decide) (by simp [lg_sl, Value.category]) ?_
      intro p e s m args below meth c ls hx hb hml hr hlk hown ht hK hP hS hl
      have hl : lv_has ls 8 [(0, .ref h), (1, .int 3), (2, .int a2), (3, .int a3), (4, .int a4), (5, .int a5)] := hl
      refine lv_aload_n hx hb dX10_paste_0 rfl (lv_at hl 0 rfl) ?_
      refine lv_iload_n hx hb dX10_paste_1 rfl (lv_at hl 1 rfl) ?_
      refine behI (runVP (As := [.int 3]) (rest := []) ⟨hx, hb, hml, hown, ht⟩ (pX10_isSlot l G cs h q 3) okV_RX10_348 ⟨by decide, by decide⟩ hK hP [] rfl 0 rfl rfl hl.1 rfl (Nat.le_of_ble_eq_true rfl) dX10_paste_2 ⟨by decide, by decide⟩) hP hS (fun _ h => h) (fun H locs hP hS => ?_)
      refine lv_topi (fun v1 ev1 => ?_)
      obtain rfl : v1 = 1 := ev1.trans (by decide)
      refine lv_if_eq (tgt := 16) hx hb dX10_paste_5 (by decide) (fun c2 => False.elim (by revert c2; decide)) (fun c3 => ?_)
      refine lv_aload_n hx hb dX10_paste_8 rfl (lv_at hl 0 rfl) ?_
      refine lv_iload_n hx hb dX10_paste_9 rfl (lv_at hl 3 rfl) ?_
      refine behI (runVP (As := [.int a3]) (rest := []) ⟨hx, hb, hml, hown, ht⟩ (pX10_isSlot l G cs h q a3) okV_RX10_348 ⟨by decide, by decide⟩ hK hP [] rfl 0 rfl rfl hl.1 rfl (Nat.le_of_ble_eq_true rfl) dX10_paste_10 ⟨by decide, by decide⟩) hP hS (fun _ h => h) (fun H locs hP hS => ?_)
      refine lv_topi (fun v4 ev4 => ?_)
      obtain rfl : v4 = 0 := ev4.trans (spk_hi (by decide) hb2)
      refine lv_if_ne (tgt := 19) hx hb dX10_paste_13 (by decide) (fun c5 => False.elim (by revert c5; decide)) (fun c6 => ?_)
      refine lv_bipush (v := (-2)) hx hb dX10_paste_16 (by decide) ?_
      exact retPi hx hb hr hlk hS dX10_paste_18 ((show _ = spk 4 _ (spk 4 a3 (-6) (-2)) (-2) by rw [spk_hi (by decide) hb2]; decide))
    · refine mkP (Qc := QPi (spk 4 3 (spk 4 0 (-6) (-2)) (-2))) (by decide) (by simp [lg_sl, Value.category]) ?_
      intro p e s m args below meth c ls hx hb hml hr hlk hown ht hK hP hS hl
      have hl : lv_has ls 8 [(0, .ref h), (1, .int 3), (2, .int a2), (3, .int 0), (4, .int a4), (5, .int a5)] := hl
      refine lv_aload_n hx hb dX10_paste_0 rfl (lv_at hl 0 rfl) ?_
      refine lv_iload_n hx hb dX10_paste_1 rfl (lv_at hl 1 rfl) ?_
      refine behI (runVP (As := [.int 3]) (rest := []) ⟨hx, hb, hml, hown, ht⟩ (pX10_isSlot l G cs h q 3) okV_RX10_348 ⟨by decide, by decide⟩ hK hP [] rfl 0 rfl rfl hl.1 rfl (Nat.le_of_ble_eq_true rfl) dX10_paste_2 ⟨by decide, by decide⟩) hP hS (fun _ h => h) (fun H locs hP hS => ?_)
      refine lv_topi (fun v1 ev1 => ?_)
      obtain rfl : v1 = 1 := ev1.trans (by decide)
      refine lv_if_eq (tgt := 16) hx hb dX10_paste_5 (by decide) (fun c2 => False.elim (by revert c2; decide)) (fun c3 => ?_)
      refine lv_aload_n hx hb dX10_paste_8 rfl (lv_at hl 0 rfl) ?_
      refine lv_iload_n hx hb dX10_paste_9 rfl (lv_at hl 3 rfl) ?_
      refine behI (runVP (As := [.int 0]) (rest := []) ⟨hx, hb, hml, hown, ht⟩ (pX10_isSlot l G cs h q 0) okV_RX10_348 ⟨by decide, by decide⟩ hK hP [] rfl 0 rfl rfl hl.1 rfl (Nat.le_of_ble_eq_true rfl) dX10_paste_10 ⟨by decide, by decide⟩) hP hS (fun _ h => h) (fun H locs hP hS => ?_)
      refine lv_topi (fun v4 ev4 => ?_)
      obtain rfl : v4 = 1 := ev4.trans (by decide)
      refine lv_if_ne (tgt := 19) hx hb dX10_paste_13 (by decide) (fun c6 => ?_) (fun c5 => False.elim (by revert c5; decide))
      refine lv_aload_n hx hb dX10_paste_19 rfl (lv_at hl 0 rfl) ?_
      refine getF hx hb ht hown hK hP iTX10 0 5 rfl rfl (by decide) fl_RX10_41 rfl dX10_paste_20 ?_
      refine lv_iload_n hx hb dX10_paste_23 rfl (lv_at hl 1 rfl) ?_
      refine va_aldq hx hb hK.1 hP 1 5 rfl rfl (show ¬ (_ ∨ _) by decide) dX10_paste_24 ?_
      refine W.eq (g2 := F0 m 25 ls [.ref (q 60)]) rfl ?_
      refine lv_astore (lv' := [(6, .ref (q 60)), (0, .ref h), (1, .int 3), (2, .int a2), (3, .int 0), (4, .int a4), (5, .int a5)]) hx hb dX10_paste_25 hl (by decide) rfl (fun ls hl => ?_)
      refine lv_aload_n hx hb dX10_paste_27 rfl (lv_at hl 1 rfl) ?_
      refine getF hx hb ht hown hK hP iTX10 0 5 rfl rfl (by decide) fl_RX10_41 rfl dX10_paste_28 ?_
      refine lv_iload_n hx hb dX10_paste_31 rfl (lv_at hl 4 rfl) ?_
      refine va_aldq hx hb hK.1 hP 1 5 rfl rfl (show ¬ (_ ∨ _) by decide) dX10_paste_32 ?_
      refine W.eq (g2 := F0 m 33 ls [.ref (q 54)]) rfl ?_
      refine lv_astore (lv' := [(7, .ref (q 54)), (6, .ref (q 60)), (0, .ref h), (1, .int 3), (2, .int a2), (3, .int 0), (4, .int a4), (5, .int a5)]) hx hb dX10_paste_33 hl (by decide) rfl (fun ls hl => ?_)
      refine lv_aload hx hb dX10_paste_35 (lv_at hl 1 rfl) ?_
      refine getF hx hb ht hown hK hP iTX7 5 1 rfl rfl (by decide) fl_RX10_354 rfl dX10_paste_37 ?_
      refine lv_if_eq (tgt := 51) hx hb dX10_paste_40 (by decide) (fun c8 => ?_) (fun c7 => False.elim (by revert c7; decide))
      refine lv_bipush (v := (-6)) hx hb dX10_paste_51 (by decide) ?_
      exact retPi hx hb hr hlk hS dX10_paste_53 (by decide)
    · refine mkP (Qc := QPi (spk 4 3 (spk 4 1 (-6) (-2)) (-2))) (by decide) (by simp [lg_sl, Value.category]) ?_
      intro p e s m args below meth c ls hx hb hml hr hlk hown ht hK hP hS hl
      have hl : lv_has ls 8 [(0, .ref h), (1, .int 3), (2, .int a2), (3, .int 1), (4, .int a4), (5, .int a5)] := hl
      refine lv_aload_n hx hb dX10_paste_0 rfl (lv_at hl 0 rfl) ?_
      refine lv_iload_n hx hb dX10_paste_1 rfl (lv_at hl 1 rfl) ?_
      refine behI (runVP (As := [.int 3]) (rest := []) ⟨hx, hb, hml, hown, ht⟩ (pX10_isSlot l G cs h q 3) okV_RX10_348 ⟨by decide, by decide⟩ hK hP [] rfl 0 rfl rfl hl.1 rfl (Nat.le_of_ble_eq_true rfl) dX10_paste_2 ⟨by decide, by decide⟩) hP hS (fun _ h => h) (fun H locs hP hS => ?_)
      refine lv_topi (fun v1 ev1 => ?_)
      obtain rfl : v1 = 1 := ev1.trans (by decide)
      refine lv_if_eq (tgt := 16) hx hb dX10_paste_5 (by decide) (fun c2 => False.elim (by revert c2; decide)) (fun c3 => ?_)
      refine lv_aload_n hx hb dX10_paste_8 rfl (lv_at hl 0 rfl) ?_
      refine lv_iload_n hx hb dX10_paste_9 rfl (lv_at hl 3 rfl) ?_
      refine behI (runVP (As := [.int 1]) (rest := []) ⟨hx, hb, hml, hown, ht⟩ (pX10_isSlot l G cs h q 1) okV_RX10_348 ⟨by decide, by decide⟩ hK hP [] rfl 0 rfl rfl hl.1 rfl (Nat.le_of_ble_eq_true rfl) dX10_paste_10 ⟨by decide, by decide⟩) hP hS (fun _ h => h) (fun H locs hP hS => ?_)
      refine lv_topi (fun v4 ev4 => ?_)
      obtain rfl : v4 = 1 := ev4.trans (by decide)
      refine lv_if_ne (tgt := 19) hx hb dX10_paste_13 (by decide) (fun c6 => ?_) (fun c5 => False.elim (by revert c5; decide))
      refine lv_aload_n hx hb dX10_paste_19 rfl (lv_at hl 0 rfl) ?_
      refine getF hx hb ht hown hK hP iTX10 0 5 rfl rfl (by decide) fl_RX10_41 rfl dX10_paste_20 ?_
      refine lv_iload_n hx hb dX10_paste_23 rfl (lv_at hl 1 rfl) ?_
      refine va_aldq hx hb hK.1 hP 1 5 rfl rfl (show ¬ (_ ∨ _) by decide) dX10_paste_24 ?_
      refine W.eq (g2 := F0 m 25 ls [.ref (q 60)]) rfl ?_
      refine lv_astore (lv' := [(6, .ref (q 60)), (0, .ref h), (1, .int 3), (2, .int a2), (3, .int 1), (4, .int a4), (5, .int a5)]) hx hb dX10_paste_25 hl (by decide) rfl (fun ls hl => ?_)
      refine lv_aload_n hx hb dX10_paste_27 rfl (lv_at hl 1 rfl) ?_
      refine getF hx hb ht hown hK hP iTX10 0 5 rfl rfl (by decide) fl_RX10_41 rfl dX10_paste_28 ?_
      refine lv_iload_n hx hb dX10_paste_31 rfl (lv_at hl 4 rfl) ?_
      refine va_aldq hx hb hK.1 hP 1 5 rfl rfl (show ¬ (_ ∨ _) by decide) dX10_paste_32 ?_
      refine W.eq (g2 := F0 m 33 ls [.ref (q 56)]) rfl ?_
      refine lv_astore (lv' := [(7, .ref (q 56)), (6, .ref (q 60)), (0, .ref h), (1, .int 3), (2, .int a2), (3, .int 1), (4, .int a4), (5, .int a5)]) hx hb dX10_paste_33 hl (by decide) rfl (fun ls hl => ?_)
      refine lv_aload hx hb dX10_paste_35 (lv_at hl 1 rfl) ?_
      refine getF hx hb ht hown hK hP iTX7 5 1 rfl rfl (by decide) fl_RX10_354 rfl dX10_paste_37 ?_
      refine lv_if_eq (tgt := 51) hx hb dX10_paste_40 (by decide) (fun c8 => ?_) (fun c7 => False.elim (by revert c7; decide))
      refine lv_bipush (v := (-6)) hx hb dX10_paste_51 (by decide) ?_
      exact retPi hx hb hr hlk hS dX10_paste_53 (by decide)
    · refine mkP (Qc := QPi (spk 4 3 (spk 4 2 (-6) (-2)) (-2))) (by decide) (by simp [lg_sl, Value.category]) ?_
      intro p e s m args below meth c ls hx hb hml hr hlk hown ht hK hP hS hl
      have hl : lv_has ls 8 [(0, .ref h), (1, .int 3), (2, .int a2), (3, .int 2), (4, .int a4), (5, .int a5)] := hl
      refine lv_aload_n hx hb dX10_paste_0 rfl (lv_at hl 0 rfl) ?_
      refine lv_iload_n hx hb dX10_paste_1 rfl (lv_at hl 1 rfl) ?_
      refine behI (runVP (As := [.int 3]) (rest := []) ⟨hx, hb, hml, hown, ht⟩ (pX10_isSlot l G cs h q 3) okV_RX10_348 ⟨by decide, by decide⟩ hK hP [] rfl 0 rfl rfl hl.1 rfl (Nat.le_of_ble_eq_true rfl) dX10_paste_2 ⟨by decide, by decide⟩) hP hS (fun _ h => h) (fun H locs hP hS => ?_)
      refine lv_topi (fun v1 ev1 => ?_)
      obtain rfl : v1 = 1 := ev1.trans (by decide)
      refine lv_if_eq (tgt := 16) hx hb dX10_paste_5 (by decide) (fun c2 => False.elim (by revert c2; decide)) (fun c3 => ?_)
      refine lv_aload_n hx hb dX10_paste_8 rfl (lv_at hl 0 rfl) ?_
      refine lv_iload_n hx hb dX10_paste_9 rfl (lv_at hl 3 rfl) ?_
      refine behI (runVP (As := [.int 2]) (rest := []) ⟨hx, hb, hml, hown, ht⟩ (pX10_isSlot l G cs h q 2) okV_RX10_348 ⟨by decide, by decide⟩ hK hP [] rfl 0 rfl rfl hl.1 rfl (Nat.le_of_ble_eq_true rfl) dX10_paste_10 ⟨by decide, by decide⟩) hP hS (fun _ h => h) (fun H locs hP hS => ?_)
      refine lv_topi (fun v4 ev4 => ?_)
      obtain rfl : v4 = 1 := ev4.trans (by decide)
      refine lv_if_ne (tgt := 19) hx hb dX10_paste_13 (by decide) (fun c6 => ?_) (fun c5 => False.elim (by revert c5; decide))
      refine lv_aload_n hx hb dX10_paste_19 rfl (lv_at hl 0 rfl) ?_
      refine getF hx hb ht hown hK hP iTX10 0 5 rfl rfl (by decide) fl_RX10_41 rfl dX10_paste_20 ?_
      refine lv_iload_n hx hb dX10_paste_23 rfl (lv_at hl 1 rfl) ?_
      refine va_aldq hx hb hK.1 hP 1 5 rfl rfl (show ¬ (_ ∨ _) by decide) dX10_paste_24 ?_
      refine W.eq (g2 := F0 m 25 ls [.ref (q 60)]) rfl ?_
      refine lv_astore (lv' := [(6, .ref (q 60)), (0, .ref h), (1, .int 3), (2, .int a2), (3, .int 2), (4, .int a4), (5, .int a5)]) hx hb dX10_paste_25 hl (by decide) rfl (fun ls hl => ?_)
      refine lv_aload_n hx hb dX10_paste_27 rfl (lv_at hl 1 rfl) ?_
      refine getF hx hb ht hown hK hP iTX10 0 5 rfl rfl (by decide) fl_RX10_41 rfl dX10_paste_28 ?_
      refine lv_iload_n hx hb dX10_paste_31 rfl (lv_at hl 4 rfl) ?_
      refine va_aldq hx hb hK.1 hP 1 5 rfl rfl (show ¬ (_ ∨ _) by decide) dX10_paste_32 ?_
      refine W.eq (g2 := F0 m 33 ls [.ref (q 58)]) rfl ?_
      refine lv_astore (lv' := [(7, .ref (q 58)), (6, .ref (q 60)), (0, .ref h), (1, .int 3), (2, .int a2), (3, .int 2), (4, .int a4), (5, .int a5)]) hx hb dX10_paste_33 hl (by decide) rfl (fun ls hl => ?_)
      refine lv_aload hx hb dX10_paste_35 (lv_at hl 1 rfl) ?_
      refine getF hx hb ht hown hK hP iTX7 5 1 rfl rfl (by decide) fl_RX10_354 rfl dX10_paste_37 ?_
      refine lv_if_eq (tgt := 51) hx hb dX10_paste_40 (by decide) (fun c8 => ?_) (fun c7 => False.elim (by revert c7; decide))
      refine lv_bipush (v := (-6)) hx hb dX10_paste_51 (by decide) ?_
      exact retPi hx hb hr hlk hS dX10_paste_53 (by decide)
    · refine mkP (Qc := QPi (spk 4 3 (spk 4 3 (-6) (-2)) (-2))) (by decide) (by simp [lg_sl, Value.category]) ?_
      intro p e s m args below meth c ls hx hb hml hr hlk hown ht hK hP hS hl
      have hl : lv_has ls 8 [(0, .ref h), (1, .int 3), (2, .int a2), (3, .int 3), (4, .int a4), (5, .int a5)] := hl
      refine lv_aload_n hx hb dX10_paste_0 rfl (lv_at hl 0 rfl) ?_
      refine lv_iload_n hx hb dX10_paste_1 rfl (lv_at hl 1 rfl) ?_
      refine behI (runVP (As := [.int 3]) (rest := []) ⟨hx, hb, hml, hown, ht⟩ (pX10_isSlot l G cs h q 3) okV_RX10_348 ⟨by decide, by decide⟩ hK hP [] rfl 0 rfl rfl hl.1 rfl (Nat.le_of_ble_eq_true rfl) dX10_paste_2 ⟨by decide, by decide⟩) hP hS (fun _ h => h) (fun H locs hP hS => ?_)
      refine lv_topi (fun v1 ev1 => ?_)
      obtain rfl : v1 = 1 := ev1.trans (by decide)
      refine lv_if_eq (tgt := 16) hx hb dX10_paste_5 (by decide) (fun c2 => False.elim (by revert c2; decide)) (fun c3 => ?_)
      refine lv_aload_n hx hb dX10_paste_8 rfl (lv_at hl 0 rfl) ?_
      refine lv_iload_n hx hb dX10_paste_9 rfl (lv_at hl 3 rfl) ?_
      refine behI (runVP (As := [.int 3]) (rest := []) ⟨hx, hb, hml, hown, ht⟩ (pX10_isSlot l G cs h q 3) okV_RX10_348 ⟨by decide, by decide⟩ hK hP [] rfl 0 rfl rfl hl.1 rfl (Nat.le_of_ble_eq_true rfl) dX10_paste_10 ⟨by decide, by decide⟩) hP hS (fun _ h => h) (fun H locs hP hS => ?_)
      refine lv_topi (fun v4 ev4 => ?_)
      obtain rfl : v4 = 1 := ev4.trans (by decide)
      refine lv_if_ne (tgt := 19) hx hb dX10_paste_13 (by decide) (fun c6 => ?_) (fun c5 => False.elim (by revert c5; decide))
      refine lv_aload_n hx hb dX10_paste_19 rfl (lv_at hl 0 rfl) ?_
      refine getF hx hb ht hown hK hP iTX10 0 5 rfl rfl (by decide) fl_RX10_41 rfl dX10_paste_20 ?_
      refine lv_iload_n hx hb dX10_paste_23 rfl (lv_at hl 1 rfl) ?_
      refine va_aldq hx hb hK.1 hP 1 5 rfl rfl (show ¬ (_ ∨ _) by decide) dX10_paste_24 ?_
      refine W.eq (g2 := F0 m 25 ls [.ref (q 60)]) rfl ?_
      refine lv_astore (lv' := [(6, .ref (q 60)), (0, .ref h), (1, .int 3), (2, .int a2), (3, .int 3), (4, .int a4), (5, .int a5)]) hx hb dX10_paste_25 hl (by decide) rfl (fun ls hl => ?_)
      refine lv_aload_n hx hb dX10_paste_27 rfl (lv_at hl 1 rfl) ?_
      refine getF hx hb ht hown hK hP iTX10 0 5 rfl rfl (by decide) fl_RX10_41 rfl dX10_paste_28 ?_
      refine lv_iload_n hx hb dX10_paste_31 rfl (lv_at hl 4 rfl) ?_
      refine va_aldq hx hb hK.1 hP 1 5 rfl rfl (show ¬ (_ ∨ _) by decide) dX10_paste_32 ?_
      refine W.eq (g2 := F0 m 33 ls [.ref (q 60)]) rfl ?_
      refine lv_astore (lv' := [(7, .ref (q 60)), (6, .ref (q 60)), (0, .ref h), (1, .int 3), (2, .int a2), (3, .int 3), (4, .int a4), (5, .int a5)]) hx hb dX10_paste_33 hl (by decide) rfl (fun ls hl => ?_)
      refine lv_aload hx hb dX10_paste_35 (lv_at hl 1 rfl) ?_
      refine getF hx hb ht hown hK hP iTX7 5 1 rfl rfl (by decide) fl_RX10_354 rfl dX10_paste_37 ?_
      refine lv_if_eq (tgt := 51) hx hb dX10_paste_40 (by decide) (fun c8 => ?_) (fun c7 => False.elim (by revert c7; decide))
      refine lv_bipush (v := (-6)) hx hb dX10_paste_51 (by decide) ?_
      exact retPi hx hb hr hlk hS dX10_paste_53 (by decide)

set_option maxRecDepth 100000 in
set_option maxHeartbeats 4000000 in
theorem pX10_fault (l : Launch) (G : va_G) (cs : Nat → ClassId) (h : Nat) (q : Nat → Nat) (a1 : Int32) : PureI l yX10_fault cX10_fault 2 (some .int) 0 G (TY cs) [.ref h, .int a1] [(xc0 cs h q), (xc1 cs h q)] (spf a1) := by
  rcases csf a1 with rfl | rfl | ⟨hf0, hf1⟩
  · refine mkP (Qc := QPi (spf 0)) (by decide) (by simp [lg_sl, Value.category]) ?_
    intro p e s m args below meth c ls hx hb hml hr hlk hown ht hK hP hS hl
    have hl : lv_has ls 2 [(0, .ref h), (1, .int 0)] := hl
    refine lv_iload_n hx hb dX10_fault_0 rfl (lv_at hl 1 rfl) ?_
    refine lv_lookup (off := 27) (tgt := 28) hx hb dX10_fault_1 (by decide) (by decide) (by decide) ?_
    refine lv_aload_n hx hb dX10_fault_28 rfl (lv_at hl 0 rfl) ?_
    refine getF hx hb ht hown hK hP iTX10 0 0 rfl rfl (by decide) fl_RX10_10 rfl dX10_fault_29 ?_
    refine getF hx hb ht hown hK hP iTX6 1 5 rfl rfl (by decide) fl_RX10_114 rfl dX10_fault_32 ?_
    exact retPi hx hb hr hlk hS dX10_fault_35 (by decide)
  · refine mkP (Qc := QPi (spf 1)) (by decide) (by simp [lg_sl, Value.category]) ?_
    intro p e s m args below meth c ls hx hb hml hr hlk hown ht hK hP hS hl
    have hl : lv_has ls 2 [(0, .ref h), (1, .int 1)] := hl
    refine lv_iload_n hx hb dX10_fault_0 rfl (lv_at hl 1 rfl) ?_
    refine lv_lookup (off := 35) (tgt := 36) hx hb dX10_fault_1 (by decide) (by decide) (by decide) ?_
    refine lv_aload_n hx hb dX10_fault_36 rfl (lv_at hl 0 rfl) ?_
    refine getF hx hb ht hown hK hP iTX10 0 0 rfl rfl (by decide) fl_RX10_10 rfl dX10_fault_37 ?_
    refine getF hx hb ht hown hK hP iTX6 1 6 rfl rfl (by decide) fl_RX10_117 rfl dX10_fault_40 ?_
    exact retPi hx hb hr hlk hS dX10_fault_43 (by decide)
  · refine mkP (Qc := QPi (spf a1)) (by decide) (by simp [lg_sl, Value.category]) ?_
    intro p e s m args below meth c ls hx hb hml hr hlk hown ht hK hP hS hl
    have hl : lv_has ls 2 [(0, .ref h), (1, .int a1)] := hl
    refine lv_iload_n hx hb dX10_fault_0 rfl (lv_at hl 1 rfl) ?_
    refine lv_lookup (off := 43) (tgt := 44) hx hb dX10_fault_1 (by decide) ((lv_osw hf0 (by decide)).trans ((lv_osw hf1 (by decide)).trans rfl)) (by decide) ?_
    refine lv_iconst (v := (-1)) hx hb dX10_fault_44 (by decide) ?_
    exact retPi hx hb hr hlk hS dX10_fault_45 ((if_neg hf0).symm)
end
section
set_option maxRecDepth 100000 in
set_option maxHeartbeats 4000000 in
theorem pX11_in (l : Launch) (G : va_G) (cs : Nat → ClassId) (h : Nat) (q : Nat → Nat) (a1 : Int64) (a2 : Int64) (a3 : Int64) : PureI l yX11_in cX11_in 6 (some .boolean) 0 G (TY cs) [.long a1, .long a2, .long a3] [] (inF a1 a2 a3) := by
  refine mkP (Qc := QPi (inF a1 a2 a3)) (by decide) (by simp [lg_sl, Value.category]) ?_
  intro p e s m args below meth c ls hx hb hml hr hlk hown ht hK hP hS hl
  have hl : lv_has ls 6 [(0, .long a1), (2, .long a2), (4, .long a3)] := hl
  refine lv_lload_n hx hb dX11_in_0 rfl (lv_at hl 0 rfl) ?_
  refine lv_lload_n hx hb dX11_in_1 rfl (lv_at hl 1 rfl) ?_
  refine W.lcmp hx hb dX11_in_2 ?_
  refine lv_if_lt (tgt := 17) hx hb dX11_in_3 (by decide) (fun c1 => ?_) (fun c1 => ?_)
  · refine lv_iconst (v := 0) hx hb dX11_in_17 (by decide) ?_
    exact retPz hx hb hr hlk hS dX11_in_18 (rfl) ((inF_a c1).symm)
  · refine lv_lload_n hx hb dX11_in_6 rfl (lv_at hl 0 rfl) ?_
    refine lv_lload hx hb dX11_in_7 (lv_at hl 2 rfl) ?_
    refine W.lcmp hx hb dX11_in_9 ?_
    refine lv_if_gt (tgt := 17) hx hb dX11_in_10 (by decide) (fun c2 => ?_) (fun c2 => ?_)
    · refine lv_iconst (v := 0) hx hb dX11_in_17 (by decide) ?_
      exact retPz hx hb hr hlk hS dX11_in_18 (rfl) ((inF_b c2).symm)
    · refine lv_iconst (v := 1) hx hb dX11_in_13 (by decide) ?_
      refine lv_goto (tgt := 18) hx hb dX11_in_14 (by decide) ?_
      exact retPz hx hb hr hlk hS dX11_in_18 (rfl) ((inF_c c1 c2).symm)

set_option maxRecDepth 100000 in
set_option maxHeartbeats 4000000 in
theorem pX11_isHouse (l : Launch) (G : va_G) (cs : Nat → ClassId) (h : Nat) (q : Nat → Nat)  : PureI l yX11_isHouse cX11_isHouse 1 (some .boolean) 0 G (TY cs) [.ref h] [(mc0 cs h q), (mc1 cs h q)] 0 := by
  refine mkP (Qc := QPi 0) (by decide) (by simp [lg_sl, Value.category]) ?_
  intro p e s m args below meth c ls hx hb hml hr hlk hown ht hK hP hS hl
  have hl : lv_has ls 1 [(0, .ref h)] := hl
  refine lv_aload_n hx hb dX11_isHouse_0 rfl (lv_at hl 0 rfl) ?_
  refine getF hx hb ht hown hK hP iTX11 0 1 rfl rfl (by decide) fl_RX11_9 rfl dX11_isHouse_1 ?_
  refine lv_bipush (v := 6) hx hb dX11_isHouse_4 (by decide) ?_
  refine va_iald hx hb hK.1 hP 1 0 rfl rfl (show ¬ (_ ∨ _) by decide) dX11_isHouse_6 ?_
  refine lv_topi (fun v1 ev1 => ?_)
  obtain rfl : v1 = 0 := ev1.trans rfl
  refine lv_if_le (tgt := 14) hx hb dX11_isHouse_7 (by decide) (fun c3 => ?_) (fun c2 => False.elim (by revert c2; decide))
  refine lv_iconst (v := 0) hx hb dX11_isHouse_14 (by decide) ?_
  exact retPz hx hb hr hlk hS dX11_isHouse_15 (rfl) (rfl)

set_option maxRecDepth 100000 in
set_option maxHeartbeats 4000000 in
theorem pX11_isRoom (l : Launch) (G : va_G) (cs : Nat → ClassId) (h : Nat) (q : Nat → Nat) (a1 : Int64) : PureI l yX11_isRoom cX11_isRoom 3 (some .boolean) 1 G (TY cs) [.ref h, .long a1] [(mc0 cs h q), (mc1 cs h q)] 0 := by
  refine mkP (Qc := QPi 0) (by decide) (by simp [lg_sl, Value.category]) ?_
  intro p e s m args below meth c ls hx hb hml hr hlk hown ht hK hP hS hl
  have hl : lv_has ls 3 [(0, .ref h), (1, .long a1)] := hl
  refine lv_lload_n hx hb dX11_isRoom_0 rfl (lv_at hl 1 rfl) ?_
  refine lv_lconst (v := 0) hx hb dX11_isRoom_1 (by decide) ?_
  refine lv_aload_n hx hb dX11_isRoom_2 rfl (lv_at hl 0 rfl) ?_
  refine getF hx hb ht hown hK hP iTX11 0 1 rfl rfl (by decide) fl_RX11_9 rfl dX11_isRoom_3 ?_
  refine lv_iconst (v := 4) hx hb dX11_isRoom_6 (by decide) ?_
  refine va_iald hx hb hK.1 hP 1 0 rfl rfl (show ¬ (_ ∨ _) by decide) dX11_isRoom_7 ?_
  refine lv_topi (fun v1 ev1 => ?_)
  obtain rfl : v1 = 0 := ev1.trans rfl
  refine lv_iconst (v := 1) hx hb dX11_isRoom_8 (by decide) ?_
  refine lv_isub hx hb dX11_isRoom_9 ?_
  refine lv_topi (fun v2 ev2 => ?_)
  obtain rfl : v2 = (-1) := ev2.trans (by decide)
  refine lv_i2l (v := (-1)) hx hb dX11_isRoom_10 (by decide) ?_
  refine behI (runSP (As := [.long a1, .long 0, .long (-1)]) (rest := []) ⟨hx, hb, hml, hown, ht⟩ (pX11_in l G cs h q a1 0 (-1)) okS_RX11_79 ⟨by decide, by decide⟩ hK hP [] rfl hl.1 rfl (Nat.le_of_ble_eq_true rfl) dX11_isRoom_11 ⟨by decide, by decide⟩) hP hS (fun _ h => h) (fun H locs hP hS => ?_)
  refine lv_topi (fun v3 ev3 => ?_)
  obtain rfl : v3 = 0 := ev3.trans (inF_o (by decide))
  exact retPz hx hb hr hlk hS dX11_isRoom_14 (rfl) (rfl)

set_option maxRecDepth 100000 in
set_option maxHeartbeats 4000000 in
theorem pX11_isRoomOrNone (l : Launch) (G : va_G) (cs : Nat → ClassId) (h : Nat) (q : Nat → Nat) (a1 : Int64) : PureI l yX11_isRoomOrNone cX11_isRoomOrNone 3 (some .boolean) 2 G (TY cs) [.ref h, .long a1] [(mc0 cs h q), (mc1 cs h q)] 0 := by
  refine mkP (Qc := QPi 0) (by decide) (by simp [lg_sl, Value.category]) ?_
  intro p e s m args below meth c ls hx hb hml hr hlk hown ht hK hP hS hl
  have hl : lv_has ls 3 [(0, .ref h), (1, .long a1)] := hl
  refine lv_aload_n hx hb dX11_isRoomOrNone_0 rfl (lv_at hl 0 rfl) ?_
  refine behI (runVP (As := []) (rest := []) ⟨hx, hb, hml, hown, ht⟩ (pX11_isHouse l G cs h q ) okV_RX11_83 ⟨by decide, by decide⟩ hK hP [0, 1] rfl 0 rfl rfl hl.1 rfl (Nat.le_of_ble_eq_true rfl) dX11_isRoomOrNone_1 ⟨by decide, by decide⟩) hP hS (fun _ h => h) (fun H locs hP hS => ?_)
  refine lv_if_eq (tgt := 15) hx hb dX11_isRoomOrNone_4 (by decide) (fun c2 => ?_) (fun c1 => False.elim (by revert c1; decide))
  refine lv_aload_n hx hb dX11_isRoomOrNone_15 rfl (lv_at hl 0 rfl) ?_
  refine lv_lload_n hx hb dX11_isRoomOrNone_16 rfl (lv_at hl 1 rfl) ?_
  refine behI (runVP (As := [.long a1]) (rest := []) ⟨hx, hb, hml, hown, ht⟩ (pX11_isRoom l G cs h q a1) okV_RX11_89 ⟨by decide, by decide⟩ hK hP [0, 1] rfl 0 rfl rfl hl.1 rfl (Nat.le_of_ble_eq_true rfl) dX11_isRoomOrNone_17 ⟨by decide, by decide⟩) hP hS (fun _ h => h) (fun H locs hP hS => ?_)
  refine lv_if_eq (tgt := 27) hx hb dX11_isRoomOrNone_20 (by decide) (fun c4 => ?_) (fun c3 => False.elim (by revert c3; decide))
  refine lv_iconst (v := 0) hx hb dX11_isRoomOrNone_27 (by decide) ?_
  exact retPz hx hb hr hlk hS dX11_isRoomOrNone_28 (rfl) (rfl)

set_option maxRecDepth 100000 in
set_option maxHeartbeats 4000000 in
theorem pX11_isMan (l : Launch) (G : va_G) (cs : Nat → ClassId) (h : Nat) (q : Nat → Nat) (a1 : Int32) : PureI l yX11_isMan cX11_isMan 2 (some .boolean) 1 G (TY cs) [.ref h, .int a1] [(mc0 cs h q), (mc1 cs h q)] 0 := by
  refine mkP (Qc := QPi 0) (by decide) (by simp [lg_sl, Value.category]) ?_
  intro p e s m args below meth c ls hx hb hml hr hlk hown ht hK hP hS hl
  have hl : lv_has ls 2 [(0, .ref h), (1, .int a1)] := hl
  refine lv_iload_n hx hb dX11_isMan_0 rfl (lv_at hl 1 rfl) ?_
  refine lv_i2l hx hb dX11_isMan_1 rfl ?_
  refine lv_lconst (v := 0) hx hb dX11_isMan_2 (by decide) ?_
  refine lv_aload_n hx hb dX11_isMan_3 rfl (lv_at hl 0 rfl) ?_
  refine getF hx hb ht hown hK hP iTX11 0 1 rfl rfl (by decide) fl_RX11_9 rfl dX11_isMan_4 ?_
  refine lv_iconst (v := 5) hx hb dX11_isMan_7 (by decide) ?_
  refine va_iald hx hb hK.1 hP 1 0 rfl rfl (show ¬ (_ ∨ _) by decide) dX11_isMan_8 ?_
  refine lv_topi (fun v1 ev1 => ?_)
  obtain rfl : v1 = 0 := ev1.trans rfl
  refine lv_iconst (v := 1) hx hb dX11_isMan_9 (by decide) ?_
  refine lv_isub hx hb dX11_isMan_10 ?_
  refine lv_topi (fun v2 ev2 => ?_)
  obtain rfl : v2 = (-1) := ev2.trans (by decide)
  refine lv_i2l (v := (-1)) hx hb dX11_isMan_11 (by decide) ?_
  refine behI (runSP (As := [.long a1.toInt64, .long 0, .long (-1)]) (rest := []) ⟨hx, hb, hml, hown, ht⟩ (pX11_in l G cs h q a1.toInt64 0 (-1)) okS_RX11_79 ⟨by decide, by decide⟩ hK hP [] rfl hl.1 rfl (Nat.le_of_ble_eq_true rfl) dX11_isMan_12 ⟨by decide, by decide⟩) hP hS (fun _ h => h) (fun H locs hP hS => ?_)
  refine lv_topi (fun v3 ev3 => ?_)
  obtain rfl : v3 = 0 := ev3.trans (inF_o (by decide))
  exact retPz hx hb hr hlk hS dX11_isMan_15 (rfl) (rfl)

set_option maxRecDepth 100000 in
set_option maxHeartbeats 4000000 in
theorem pX11_areMen (l : Launch) (G : va_G) (cs : Nat → ClassId) (h : Nat) (q : Nat → Nat) (a1 : Int32) : PureI l yX11_areMen cX11_areMen 2 (some .boolean) 1 G (TY cs) [.ref h, .int a1] [(mc0 cs h q), (mc1 cs h q)] 0 := by
  refine mkP (Qc := QPi 0) (by decide) (by simp [lg_sl, Value.category]) ?_
  intro p e s m args below meth c ls hx hb hml hr hlk hown ht hK hP hS hl
  have hl : lv_has ls 2 [(0, .ref h), (1, .int a1)] := hl
  refine lv_aload_n hx hb dX11_areMen_0 rfl (lv_at hl 0 rfl) ?_
  refine behI (runVP (As := []) (rest := []) ⟨hx, hb, hml, hown, ht⟩ (pX11_isHouse l G cs h q ) okV_RX11_83 ⟨by decide, by decide⟩ hK hP [0, 1] rfl 0 rfl rfl hl.1 rfl (Nat.le_of_ble_eq_true rfl) dX11_areMen_1 ⟨by decide, by decide⟩) hP hS (fun _ h => h) (fun H locs hP hS => ?_)
  refine lv_if_eq (tgt := 31) hx hb dX11_areMen_4 (by decide) (fun c2 => ?_) (fun c1 => False.elim (by revert c1; decide))
  refine lv_iconst (v := 0) hx hb dX11_areMen_31 (by decide) ?_
  exact retPz hx hb hr hlk hS dX11_areMen_32 (rfl) (rfl)

set_option maxRecDepth 100000 in
set_option maxHeartbeats 4000000 in
theorem pX11_isSlot (l : Launch) (G : va_G) (cs : Nat → ClassId) (h : Nat) (q : Nat → Nat) (a1 : Int32) : PureI l yX11_isSlot cX11_isSlot 1 (some .boolean) 1 G (TY cs) [.int a1] [] (inF a1.toInt64 0 3) := by
  refine mkP (Qc := QPi (inF a1.toInt64 0 3)) (by decide) (by simp [lg_sl, Value.category]) ?_
  intro p e s m args below meth c ls hx hb hml hr hlk hown ht hK hP hS hl
  have hl : lv_has ls 1 [(0, .int a1)] := hl
  refine lv_iload_n hx hb dX11_isSlot_0 rfl (lv_at hl 0 rfl) ?_
  refine lv_i2l hx hb dX11_isSlot_1 rfl ?_
  refine lv_lconst (v := 0) hx hb dX11_isSlot_2 (by decide) ?_
  refine lv_ldc2 hx hb hown (ht _ kl_RX11_225) dX11_isSlot_3 ?_
  refine behI (runSP (As := [.long a1.toInt64, .long 0, .long 3]) (rest := []) ⟨hx, hb, hml, hown, ht⟩ (pX11_in l G cs h q a1.toInt64 0 3) okS_RX11_79 ⟨by decide, by decide⟩ hK hP [] rfl hl.1 rfl (Nat.le_of_ble_eq_true rfl) dX11_isSlot_6 ⟨by decide, by decide⟩) hP hS (fun _ h => h) (fun H locs hP hS => ?_)
  exact retPz hx hb hr hlk hS dX11_isSlot_9 (inF_z a1.toInt64 0 3) (rfl)

set_option maxRecDepth 100000 in
set_option maxHeartbeats 4000000 in
theorem pX11_isSeed (l : Launch) (G : va_G) (cs : Nat → ClassId) (h : Nat) (q : Nat → Nat) (a1 : Int32) : PureI l yX11_isSeed cX11_isSeed 1 (some .boolean) 1 G (TY cs) [.int a1] [] (inF a1.toInt64 0 2000000000) := by
  refine mkP (Qc := QPi (inF a1.toInt64 0 2000000000)) (by decide) (by simp [lg_sl, Value.category]) ?_
  intro p e s m args below meth c ls hx hb hml hr hlk hown ht hK hP hS hl
  have hl : lv_has ls 1 [(0, .int a1)] := hl
  refine lv_iload_n hx hb dX11_isSeed_0 rfl (lv_at hl 0 rfl) ?_
  refine lv_i2l hx hb dX11_isSeed_1 rfl ?_
  refine lv_lconst (v := 0) hx hb dX11_isSeed_2 (by decide) ?_
  refine lv_ldc2 hx hb hown (ht _ kl_RX11_439) dX11_isSeed_3 ?_
  refine behI (runSP (As := [.long a1.toInt64, .long 0, .long 2000000000]) (rest := []) ⟨hx, hb, hml, hown, ht⟩ (pX11_in l G cs h q a1.toInt64 0 2000000000) okS_RX11_79 ⟨by decide, by decide⟩ hK hP [] rfl hl.1 rfl (Nat.le_of_ble_eq_true rfl) dX11_isSeed_6 ⟨by decide, by decide⟩) hP hS (fun _ h => h) (fun H locs hP hS => ?_)
  exact retPz hx hb hr hlk hS dX11_isSeed_9 (inF_z a1.toInt64 0 2000000000) (rfl)

set_option maxRecDepth 100000 in
set_option maxHeartbeats 4000000 in
theorem pX11_asksRound (l : Launch) (G : va_G) (cs : Nat → ClassId) (h : Nat) (q : Nat → Nat) (a1 : Int32) (a2 : Int32) : PureI l yX11_asksRound cX11_asksRound 4 (some .int) 2 G (TY cs) [.ref h, .int a1, .int a2] [(mc0 cs h q), (mc1 cs h q)] (-2) := by
  refine mkP (Qc := QPi (-2)) (by decide) (by simp [lg_sl, Value.category]) ?_
  intro p e s m args below meth c ls hx hb hml hr hlk hown ht hK hP hS hl
  have hl : lv_has ls 4 [(0, .ref h), (1, .int a1), (2, .int a2)] := hl
  refine lv_iload_n hx hb dX11_asksRound_0 rfl (lv_at hl 1 rfl) ?_
  refine behI (runSP (As := [.int a1]) (rest := []) ⟨hx, hb, hml, hown, ht⟩ (pX11_isSlot l G cs h q a1) okS_RX11_290 ⟨by decide, by decide⟩ hK hP [] rfl hl.1 rfl (Nat.le_of_ble_eq_true rfl) dX11_asksRound_1 ⟨by decide, by decide⟩) hP hS (fun _ h => h) (fun H locs hP hS => ?_)
  refine lv_if_eq (tgt := 18) hx hb dX11_asksRound_4 (by decide) (fun c1 => ?_) (fun c1 => ?_)
  · refine lv_bipush (v := (-2)) hx hb dX11_asksRound_18 (by decide) ?_
    exact retPi hx hb hr hlk hS dX11_asksRound_20 (rfl)
  · refine lv_aload_n hx hb dX11_asksRound_7 rfl (lv_at hl 0 rfl) ?_
    refine behI (runVP (As := []) (rest := []) ⟨hx, hb, hml, hown, ht⟩ (pX11_isHouse l G cs h q ) okV_RX11_83 ⟨by decide, by decide⟩ hK hP [0, 1] rfl 0 rfl rfl hl.1 rfl (Nat.le_of_ble_eq_true rfl) dX11_asksRound_8 ⟨by decide, by decide⟩) hP hS (fun _ h => h) (fun H locs hP hS => ?_)
    refine lv_if_eq (tgt := 18) hx hb dX11_asksRound_11 (by decide) (fun c3 => ?_) (fun c2 => False.elim (by revert c2; decide))
    refine lv_bipush (v := (-2)) hx hb dX11_asksRound_18 (by decide) ?_
    exact retPi hx hb hr hlk hS dX11_asksRound_20 (rfl)

set_option maxRecDepth 100000 in
set_option maxHeartbeats 4000000 in
theorem pX11_asksHabit (l : Launch) (G : va_G) (cs : Nat → ClassId) (h : Nat) (q : Nat → Nat) (a1 : Int32) (a2 : Int32) : PureI l yX11_asksHabit cX11_asksHabit 4 (some .int) 2 G (TY cs) [.ref h, .int a1, .int a2] [(mc0 cs h q), (mc1 cs h q)] (-2) := by
  refine mkP (Qc := QPi (-2)) (by decide) (by simp [lg_sl, Value.category]) ?_
  intro p e s m args below meth c ls hx hb hml hr hlk hown ht hK hP hS hl
  have hl : lv_has ls 4 [(0, .ref h), (1, .int a1), (2, .int a2)] := hl
  refine lv_iload_n hx hb dX11_asksHabit_0 rfl (lv_at hl 1 rfl) ?_
  refine behI (runSP (As := [.int a1]) (rest := []) ⟨hx, hb, hml, hown, ht⟩ (pX11_isSlot l G cs h q a1) okS_RX11_290 ⟨by decide, by decide⟩ hK hP [] rfl hl.1 rfl (Nat.le_of_ble_eq_true rfl) dX11_asksHabit_1 ⟨by decide, by decide⟩) hP hS (fun _ h => h) (fun H locs hP hS => ?_)
  refine lv_if_eq (tgt := 18) hx hb dX11_asksHabit_4 (by decide) (fun c1 => ?_) (fun c1 => ?_)
  · refine lv_bipush (v := (-2)) hx hb dX11_asksHabit_18 (by decide) ?_
    exact retPi hx hb hr hlk hS dX11_asksHabit_20 (rfl)
  · refine lv_aload_n hx hb dX11_asksHabit_7 rfl (lv_at hl 0 rfl) ?_
    refine behI (runVP (As := []) (rest := []) ⟨hx, hb, hml, hown, ht⟩ (pX11_isHouse l G cs h q ) okV_RX11_83 ⟨by decide, by decide⟩ hK hP [0, 1] rfl 0 rfl rfl hl.1 rfl (Nat.le_of_ble_eq_true rfl) dX11_asksHabit_8 ⟨by decide, by decide⟩) hP hS (fun _ h => h) (fun H locs hP hS => ?_)
    refine lv_if_eq (tgt := 18) hx hb dX11_asksHabit_11 (by decide) (fun c3 => ?_) (fun c2 => False.elim (by revert c2; decide))
    refine lv_bipush (v := (-2)) hx hb dX11_asksHabit_18 (by decide) ?_
    exact retPi hx hb hr hlk hS dX11_asksHabit_20 (rfl)

set_option maxRecDepth 100000 in
set_option maxHeartbeats 4000000 in
theorem pX11_room (l : Launch) (G : va_G) (cs : Nat → ClassId) (h : Nat) (q : Nat → Nat) (a1 : Int32) (a2 : Int32) : PureI l yX11_room cX11_room 3 (some .int) 2 G (TY cs) [.ref h, .int a1, .int a2] [(mc0 cs h q), (mc1 cs h q)] (-2) := by
  refine mkP (Qc := QPi (-2)) (by decide) (by simp [lg_sl, Value.category]) ?_
  intro p e s m args below meth c ls hx hb hml hr hlk hown ht hK hP hS hl
  have hl : lv_has ls 3 [(0, .ref h), (1, .int a1), (2, .int a2)] := hl
  refine lv_aload_n hx hb dX11_room_0 rfl (lv_at hl 0 rfl) ?_
  refine lv_iload_n hx hb dX11_room_1 rfl (lv_at hl 1 rfl) ?_
  refine lv_i2l hx hb dX11_room_2 rfl ?_
  refine behI (runVP (As := [.long a1.toInt64]) (rest := []) ⟨hx, hb, hml, hown, ht⟩ (pX11_isRoom l G cs h q a1.toInt64) okV_RX11_89 ⟨by decide, by decide⟩ hK hP [0, 1] rfl 0 rfl rfl hl.1 rfl (Nat.le_of_ble_eq_true rfl) dX11_room_3 ⟨by decide, by decide⟩) hP hS (fun _ h => h) (fun H locs hP hS => ?_)
  refine lv_if_eq (tgt := 30) hx hb dX11_room_6 (by decide) (fun c2 => ?_) (fun c1 => False.elim (by revert c1; decide))
  refine lv_bipush (v := (-2)) hx hb dX11_room_30 (by decide) ?_
  exact retPi hx hb hr hlk hS dX11_room_32 (rfl)

set_option maxRecDepth 100000 in
set_option maxHeartbeats 4000000 in
theorem pX11_man (l : Launch) (G : va_G) (cs : Nat → ClassId) (h : Nat) (q : Nat → Nat) (a1 : Int32) (a2 : Int32) : PureI l yX11_man cX11_man 3 (some .int) 2 G (TY cs) [.ref h, .int a1, .int a2] [(mc0 cs h q), (mc1 cs h q)] (-2) := by
  refine mkP (Qc := QPi (-2)) (by decide) (by simp [lg_sl, Value.category]) ?_
  intro p e s m args below meth c ls hx hb hml hr hlk hown ht hK hP hS hl
  have hl : lv_has ls 3 [(0, .ref h), (1, .int a1), (2, .int a2)] := hl
  refine lv_aload_n hx hb dX11_man_0 rfl (lv_at hl 0 rfl) ?_
  refine lv_iload_n hx hb dX11_man_1 rfl (lv_at hl 1 rfl) ?_
  refine behI (runVP (As := [.int a1]) (rest := []) ⟨hx, hb, hml, hown, ht⟩ (pX11_isMan l G cs h q a1) okV_RX11_230 ⟨by decide, by decide⟩ hK hP [0, 1] rfl 0 rfl rfl hl.1 rfl (Nat.le_of_ble_eq_true rfl) dX11_man_2 ⟨by decide, by decide⟩) hP hS (fun _ h => h) (fun H locs hP hS => ?_)
  refine lv_if_eq (tgt := 27) hx hb dX11_man_5 (by decide) (fun c2 => ?_) (fun c1 => False.elim (by revert c1; decide))
  refine lv_bipush (v := (-2)) hx hb dX11_man_27 (by decide) ?_
  exact retPi hx hb hr hlk hS dX11_man_29 (rfl)

set_option maxRecDepth 100000 in
set_option maxHeartbeats 4000000 in
theorem pX11_slate (l : Launch) (G : va_G) (cs : Nat → ClassId) (h : Nat) (q : Nat → Nat) (a1 : Int32) (a2 : Int32) : PureI l yX11_slate cX11_slate 3 (some .int) 2 G (TY cs) [.ref h, .int a1, .int a2] [(mc0 cs h q), (mc1 cs h q)] (-2) := by
  refine mkP (Qc := QPi (-2)) (by decide) (by simp [lg_sl, Value.category]) ?_
  intro p e s m args below meth c ls hx hb hml hr hlk hown ht hK hP hS hl
  have hl : lv_has ls 3 [(0, .ref h), (1, .int a1), (2, .int a2)] := hl
  refine lv_aload_n hx hb dX11_slate_0 rfl (lv_at hl 0 rfl) ?_
  refine lv_iload_n hx hb dX11_slate_1 rfl (lv_at hl 1 rfl) ?_
  refine behI (runVP (As := [.int a1]) (rest := []) ⟨hx, hb, hml, hown, ht⟩ (pX11_isMan l G cs h q a1) okV_RX11_230 ⟨by decide, by decide⟩ hK hP [0, 1] rfl 0 rfl rfl hl.1 rfl (Nat.le_of_ble_eq_true rfl) dX11_slate_2 ⟨by decide, by decide⟩) hP hS (fun _ h => h) (fun H locs hP hS => ?_)
  refine lv_if_eq (tgt := 27) hx hb dX11_slate_5 (by decide) (fun c2 => ?_) (fun c1 => False.elim (by revert c1; decide))
  refine lv_bipush (v := (-2)) hx hb dX11_slate_27 (by decide) ?_
  exact retPi hx hb hr hlk hS dX11_slate_29 (rfl)

set_option maxRecDepth 100000 in
set_option maxHeartbeats 4000000 in
theorem pX11_hears (l : Launch) (G : va_G) (cs : Nat → ClassId) (h : Nat) (q : Nat → Nat) (a1 : Int32) (a2 : Int32) : PureI l yX11_hears cX11_hears 3 (some .int) 2 G (TY cs) [.ref h, .int a1, .int a2] [(mc0 cs h q), (mc1 cs h q)] (-2) := by
  refine mkP (Qc := QPi (-2)) (by decide) (by simp [lg_sl, Value.category]) ?_
  intro p e s m args below meth c ls hx hb hml hr hlk hown ht hK hP hS hl
  have hl : lv_has ls 3 [(0, .ref h), (1, .int a1), (2, .int a2)] := hl
  refine lv_aload_n hx hb dX11_hears_0 rfl (lv_at hl 0 rfl) ?_
  refine lv_iload_n hx hb dX11_hears_1 rfl (lv_at hl 1 rfl) ?_
  refine lv_i2l hx hb dX11_hears_2 rfl ?_
  refine behI (runVP (As := [.long a1.toInt64]) (rest := []) ⟨hx, hb, hml, hown, ht⟩ (pX11_isRoom l G cs h q a1.toInt64) okV_RX11_89 ⟨by decide, by decide⟩ hK hP [0, 1] rfl 0 rfl rfl hl.1 rfl (Nat.le_of_ble_eq_true rfl) dX11_hears_3 ⟨by decide, by decide⟩) hP hS (fun _ h => h) (fun H locs hP hS => ?_)
  refine lv_if_eq (tgt := 30) hx hb dX11_hears_6 (by decide) (fun c2 => ?_) (fun c1 => False.elim (by revert c1; decide))
  refine lv_bipush (v := (-2)) hx hb dX11_hears_30 (by decide) ?_
  exact retPi hx hb hr hlk hS dX11_hears_32 (rfl)

set_option maxRecDepth 100000 in
set_option maxHeartbeats 4000000 in
theorem pX11_parts (l : Launch) (G : va_G) (cs : Nat → ClassId) (h : Nat) (q : Nat → Nat) (a1 : Int32) : PureI l yX11_parts cX11_parts 2 (some .int) 3 G (TY cs) [.ref h, .int a1] [(mc0 cs h q), (mc1 cs h q)] (-2) := by
  refine mkP (Qc := QPi (-2)) (by decide) (by simp [lg_sl, Value.category]) ?_
  intro p e s m args below meth c ls hx hb hml hr hlk hown ht hK hP hS hl
  have hl : lv_has ls 2 [(0, .ref h), (1, .int a1)] := hl
  refine lv_aload_n hx hb dX11_parts_0 rfl (lv_at hl 0 rfl) ?_
  refine lv_iload_n hx hb dX11_parts_1 rfl (lv_at hl 1 rfl) ?_
  refine lv_i2l hx hb dX11_parts_2 rfl ?_
  refine behI (runVP (As := [.long a1.toInt64]) (rest := []) ⟨hx, hb, hml, hown, ht⟩ (pX11_isRoomOrNone l G cs h q a1.toInt64) okV_RX11_275 ⟨by decide, by decide⟩ hK hP [0, 1] rfl 0 rfl rfl hl.1 rfl (Nat.le_of_ble_eq_true rfl) dX11_parts_3 ⟨by decide, by decide⟩) hP hS (fun _ h => h) (fun H locs hP hS => ?_)
  refine lv_if_ne (tgt := 12) hx hb dX11_parts_6 (by decide) (fun c1 => False.elim (by revert c1; decide)) (fun c2 => ?_)
  refine lv_bipush (v := (-2)) hx hb dX11_parts_9 (by decide) ?_
  exact retPi hx hb hr hlk hS dX11_parts_11 (rfl)

set_option maxRecDepth 100000 in
set_option maxHeartbeats 4000000 in
theorem pX11_found (l : Launch) (G : va_G) (cs : Nat → ClassId) (h : Nat) (q : Nat → Nat)  : PureI l yX11_found cX11_found 1 (some .int) 1 G (TY cs) [.ref h] [(mc0 cs h q), (mc1 cs h q)] (-2) := by
  refine mkP (Qc := QPi (-2)) (by decide) (by simp [lg_sl, Value.category]) ?_
  intro p e s m args below meth c ls hx hb hml hr hlk hown ht hK hP hS hl
  have hl : lv_has ls 1 [(0, .ref h)] := hl
  refine lv_aload_n hx hb dX11_found_0 rfl (lv_at hl 0 rfl) ?_
  refine behI (runVP (As := []) (rest := []) ⟨hx, hb, hml, hown, ht⟩ (pX11_isHouse l G cs h q ) okV_RX11_83 ⟨by decide, by decide⟩ hK hP [0, 1] rfl 0 rfl rfl hl.1 rfl (Nat.le_of_ble_eq_true rfl) dX11_found_1 ⟨by decide, by decide⟩) hP hS (fun _ h => h) (fun H locs hP hS => ?_)
  refine lv_if_ne (tgt := 10) hx hb dX11_found_4 (by decide) (fun c1 => False.elim (by revert c1; decide)) (fun c2 => ?_)
  refine lv_bipush (v := (-2)) hx hb dX11_found_7 (by decide) ?_
  exact retPi hx hb hr hlk hS dX11_found_9 (rfl)

set_option maxRecDepth 100000 in
set_option maxHeartbeats 4000000 in
theorem pX11_likely (l : Launch) (G : va_G) (cs : Nat → ClassId) (h : Nat) (q : Nat → Nat)  : PureI l yX11_likely cX11_likely 3 (some .int) 1 G (TY cs) [.ref h] [(mc0 cs h q), (mc1 cs h q)] (-2) := by
  refine mkP (Qc := QPi (-2)) (by decide) (by simp [lg_sl, Value.category]) ?_
  intro p e s m args below meth c ls hx hb hml hr hlk hown ht hK hP hS hl
  have hl : lv_has ls 3 [(0, .ref h)] := hl
  refine lv_aload_n hx hb dX11_likely_0 rfl (lv_at hl 0 rfl) ?_
  refine behI (runVP (As := []) (rest := []) ⟨hx, hb, hml, hown, ht⟩ (pX11_isHouse l G cs h q ) okV_RX11_83 ⟨by decide, by decide⟩ hK hP [0, 1] rfl 0 rfl rfl hl.1 rfl (Nat.le_of_ble_eq_true rfl) dX11_likely_1 ⟨by decide, by decide⟩) hP hS (fun _ h => h) (fun H locs hP hS => ?_)
  refine lv_if_ne (tgt := 10) hx hb dX11_likely_4 (by decide) (fun c1 => False.elim (by revert c1; decide)) (fun c2 => ?_)
  refine lv_bipush (v := (-2)) hx hb dX11_likely_7 (by decide) ?_
  exact retPi hx hb hr hlk hS dX11_likely_9 (rfl)

set_option maxRecDepth 100000 in
set_option maxHeartbeats 4000000 in
theorem pX11_here (l : Launch) (G : va_G) (cs : Nat → ClassId) (h : Nat) (q : Nat → Nat)  : PureI l yX11_here cX11_here 1 (some .int) 1 G (TY cs) [.ref h] [(mc0 cs h q), (mc1 cs h q)] (-2) := by
  refine mkP (Qc := QPi (-2)) (by decide) (by simp [lg_sl, Value.category]) ?_
  intro p e s m args below meth c ls hx hb hml hr hlk hown ht hK hP hS hl
  have hl : lv_has ls 1 [(0, .ref h)] := hl
  refine lv_aload_n hx hb dX11_here_0 rfl (lv_at hl 0 rfl) ?_
  refine behI (runVP (As := []) (rest := []) ⟨hx, hb, hml, hown, ht⟩ (pX11_isHouse l G cs h q ) okV_RX11_83 ⟨by decide, by decide⟩ hK hP [0, 1] rfl 0 rfl rfl hl.1 rfl (Nat.le_of_ble_eq_true rfl) dX11_here_1 ⟨by decide, by decide⟩) hP hS (fun _ h => h) (fun H locs hP hS => ?_)
  refine lv_if_ne (tgt := 10) hx hb dX11_here_4 (by decide) (fun c1 => False.elim (by revert c1; decide)) (fun c2 => ?_)
  refine lv_bipush (v := (-2)) hx hb dX11_here_7 (by decide) ?_
  exact retPi hx hb hr hlk hS dX11_here_9 (rfl)

set_option maxRecDepth 100000 in
set_option maxHeartbeats 4000000 in
theorem pX11_chance (l : Launch) (G : va_G) (cs : Nat → ClassId) (h : Nat) (q : Nat → Nat) (a1 : Int32) : PureI l yX11_chance cX11_chance 2 (some .int) 3 G (TY cs) [.ref h, .int a1] [(mc0 cs h q), (mc1 cs h q)] (-2) := by
  refine mkP (Qc := QPi (-2)) (by decide) (by simp [lg_sl, Value.category]) ?_
  intro p e s m args below meth c ls hx hb hml hr hlk hown ht hK hP hS hl
  have hl : lv_has ls 2 [(0, .ref h), (1, .int a1)] := hl
  refine lv_aload_n hx hb dX11_chance_0 rfl (lv_at hl 0 rfl) ?_
  refine lv_iload_n hx hb dX11_chance_1 rfl (lv_at hl 1 rfl) ?_
  refine lv_i2l hx hb dX11_chance_2 rfl ?_
  refine behI (runVP (As := [.long a1.toInt64]) (rest := []) ⟨hx, hb, hml, hown, ht⟩ (pX11_isRoomOrNone l G cs h q a1.toInt64) okV_RX11_275 ⟨by decide, by decide⟩ hK hP [0, 1] rfl 0 rfl rfl hl.1 rfl (Nat.le_of_ble_eq_true rfl) dX11_chance_3 ⟨by decide, by decide⟩) hP hS (fun _ h => h) (fun H locs hP hS => ?_)
  refine lv_if_ne (tgt := 12) hx hb dX11_chance_6 (by decide) (fun c1 => False.elim (by revert c1; decide)) (fun c2 => ?_)
  refine lv_bipush (v := (-2)) hx hb dX11_chance_9 (by decide) ?_
  exact retPi hx hb hr hlk hS dX11_chance_11 (rfl)

set_option maxRecDepth 100000 in
set_option maxHeartbeats 4000000 in
theorem pX11_call (l : Launch) (G : va_G) (cs : Nat → ClassId) (h : Nat) (q : Nat → Nat) (a1 : Int32) : PureI l yX11_call cX11_call 2 (some .int) 3 G (TY cs) [.ref h, .int a1] [(mc0 cs h q), (mc1 cs h q)] (-2) := by
  refine mkP (Qc := QPi (-2)) (by decide) (by simp [lg_sl, Value.category]) ?_
  intro p e s m args below meth c ls hx hb hml hr hlk hown ht hK hP hS hl
  have hl : lv_has ls 2 [(0, .ref h), (1, .int a1)] := hl
  refine lv_aload_n hx hb dX11_call_0 rfl (lv_at hl 0 rfl) ?_
  refine lv_iload_n hx hb dX11_call_1 rfl (lv_at hl 1 rfl) ?_
  refine lv_i2l hx hb dX11_call_2 rfl ?_
  refine behI (runVP (As := [.long a1.toInt64]) (rest := []) ⟨hx, hb, hml, hown, ht⟩ (pX11_isRoomOrNone l G cs h q a1.toInt64) okV_RX11_275 ⟨by decide, by decide⟩ hK hP [0, 1] rfl 0 rfl rfl hl.1 rfl (Nat.le_of_ble_eq_true rfl) dX11_call_3 ⟨by decide, by decide⟩) hP hS (fun _ h => h) (fun H locs hP hS => ?_)
  refine lv_if_ne (tgt := 12) hx hb dX11_call_6 (by decide) (fun c1 => False.elim (by revert c1; decide)) (fun c2 => ?_)
  refine lv_bipush (v := (-2)) hx hb dX11_call_9 (by decide) ?_
  exact retPi hx hb hr hlk hS dX11_call_11 (rfl)
end
section
set_option maxRecDepth 100000 in
set_option maxHeartbeats 4000000 in
theorem pX11_undo (l : Launch) (G : va_G) (cs : Nat → ClassId) (h : Nat) (q : Nat → Nat)  : PureI l yX11_undo cX11_undo 1 (some .int) 1 G (TY cs) [.ref h] [(mc0 cs h q), (mc1 cs h q)] (-2) := by
  refine mkP (Qc := QPi (-2)) (by decide) (by simp [lg_sl, Value.category]) ?_
  intro p e s m args below meth c ls hx hb hml hr hlk hown ht hK hP hS hl
  have hl : lv_has ls 1 [(0, .ref h)] := hl
  refine lv_aload_n hx hb dX11_undo_0 rfl (lv_at hl 0 rfl) ?_
  refine behI (runVP (As := []) (rest := []) ⟨hx, hb, hml, hown, ht⟩ (pX11_isHouse l G cs h q ) okV_RX11_83 ⟨by decide, by decide⟩ hK hP [0, 1] rfl 0 rfl rfl hl.1 rfl (Nat.le_of_ble_eq_true rfl) dX11_undo_1 ⟨by decide, by decide⟩) hP hS (fun _ h => h) (fun H locs hP hS => ?_)
  refine lv_if_ne (tgt := 10) hx hb dX11_undo_4 (by decide) (fun c1 => False.elim (by revert c1; decide)) (fun c2 => ?_)
  refine lv_bipush (v := (-2)) hx hb dX11_undo_7 (by decide) ?_
  exact retPi hx hb hr hlk hS dX11_undo_9 (rfl)

set_option maxRecDepth 100000 in
set_option maxHeartbeats 4000000 in
theorem pX11_anew (l : Launch) (G : va_G) (cs : Nat → ClassId) (h : Nat) (q : Nat → Nat)  : PureI l yX11_anew cX11_anew 2 (some .int) 1 G (TY cs) [.ref h] [(mc0 cs h q), (mc1 cs h q)] (-2) := by
  refine mkP (Qc := QPi (-2)) (by decide) (by simp [lg_sl, Value.category]) ?_
  intro p e s m args below meth c ls hx hb hml hr hlk hown ht hK hP hS hl
  have hl : lv_has ls 2 [(0, .ref h)] := hl
  refine lv_aload_n hx hb dX11_anew_0 rfl (lv_at hl 0 rfl) ?_
  refine behI (runVP (As := []) (rest := []) ⟨hx, hb, hml, hown, ht⟩ (pX11_isHouse l G cs h q ) okV_RX11_83 ⟨by decide, by decide⟩ hK hP [0, 1] rfl 0 rfl rfl hl.1 rfl (Nat.le_of_ble_eq_true rfl) dX11_anew_1 ⟨by decide, by decide⟩) hP hS (fun _ h => h) (fun H locs hP hS => ?_)
  refine lv_if_ne (tgt := 10) hx hb dX11_anew_4 (by decide) (fun c1 => False.elim (by revert c1; decide)) (fun c2 => ?_)
  refine lv_bipush (v := (-2)) hx hb dX11_anew_7 (by decide) ?_
  exact retPi hx hb hr hlk hS dX11_anew_9 (rfl)

set_option maxRecDepth 100000 in
set_option maxHeartbeats 4000000 in
theorem pX11_later (l : Launch) (G : va_G) (cs : Nat → ClassId) (h : Nat) (q : Nat → Nat) (a1 : Int32) (a2 : Int32) : PureI l yX11_later cX11_later 4 (some .int) 3 G (TY cs) [.ref h, .int a1, .int a2] [(mc0 cs h q), (mc1 cs h q)] (-2) := by
  refine mkP (Qc := QPi (-2)) (by decide) (by simp [lg_sl, Value.category]) ?_
  intro p e s m args below meth c ls hx hb hml hr hlk hown ht hK hP hS hl
  have hl : lv_has ls 4 [(0, .ref h), (1, .int a1), (2, .int a2)] := hl
  refine lv_aload_n hx hb dX11_later_0 rfl (lv_at hl 0 rfl) ?_
  refine lv_iload_n hx hb dX11_later_1 rfl (lv_at hl 1 rfl) ?_
  refine lv_i2l hx hb dX11_later_2 rfl ?_
  refine behI (runVP (As := [.long a1.toInt64]) (rest := []) ⟨hx, hb, hml, hown, ht⟩ (pX11_isRoomOrNone l G cs h q a1.toInt64) okV_RX11_275 ⟨by decide, by decide⟩ hK hP [0, 1] rfl 0 rfl rfl hl.1 rfl (Nat.le_of_ble_eq_true rfl) dX11_later_3 ⟨by decide, by decide⟩) hP hS (fun _ h => h) (fun H locs hP hS => ?_)
  refine lv_if_eq (tgt := 21) hx hb dX11_later_6 (by decide) (fun c2 => ?_) (fun c1 => False.elim (by revert c1; decide))
  refine lv_bipush (v := (-2)) hx hb dX11_later_21 (by decide) ?_
  exact retPi hx hb hr hlk hS dX11_later_23 (rfl)

set_option maxRecDepth 100000 in
set_option maxHeartbeats 4000000 in
theorem pX11_round (l : Launch) (G : va_G) (cs : Nat → ClassId) (h : Nat) (q : Nat → Nat) (a1 : Int32) : PureI l yX11_round cX11_round 3 (some .int) 3 G (TY cs) [.ref h, .int a1] [(mc0 cs h q), (mc1 cs h q)] (-2) := by
  refine mkP (Qc := QPi (-2)) (by decide) (by simp [lg_sl, Value.category]) ?_
  intro p e s m args below meth c ls hx hb hml hr hlk hown ht hK hP hS hl
  have hl : lv_has ls 3 [(0, .ref h), (1, .int a1)] := hl
  refine lv_aload_n hx hb dX11_round_0 rfl (lv_at hl 0 rfl) ?_
  refine lv_iload_n hx hb dX11_round_1 rfl (lv_at hl 1 rfl) ?_
  refine lv_iconst (v := 1) hx hb dX11_round_2 (by decide) ?_
  refine behI (runVP (As := [.int a1, .int 1]) (rest := []) ⟨hx, hb, hml, hown, ht⟩ (pX11_asksRound l G cs h q a1 1) okV_RX11_303 ⟨by decide, by decide⟩ hK hP [0, 1] rfl 0 rfl rfl hl.1 rfl (Nat.le_of_ble_eq_true rfl) dX11_round_3 ⟨by decide, by decide⟩) hP hS (fun _ h => h) (fun H locs hP hS => ?_)
  refine lv_istore_n (lv' := [(2, .int (-2)), (0, .ref h), (1, .int a1)]) hx hb dX11_round_6 rfl hl (by decide) rfl (fun ls hl => ?_)
  refine lv_iload_n hx hb dX11_round_7 rfl (lv_at hl 0 rfl) ?_
  refine lv_if_ge (tgt := 15) hx hb dX11_round_8 (by decide) (fun c1 => False.elim (by revert c1; decide)) (fun c2 => ?_)
  refine lv_iload_n hx hb dX11_round_11 rfl (lv_at hl 0 rfl) ?_
  refine lv_goto (tgt := 27) hx hb dX11_round_12 (by decide) ?_
  exact retPi hx hb hr hlk hS dX11_round_27 (rfl)

set_option maxRecDepth 100000 in
set_option maxHeartbeats 4000000 in
theorem pX11_behind (l : Launch) (G : va_G) (cs : Nat → ClassId) (h : Nat) (q : Nat → Nat) (a1 : Int32) (a2 : Int32) : PureI l yX11_behind cX11_behind 4 (some .int) 3 G (TY cs) [.ref h, .int a1, .int a2] [(mc0 cs h q), (mc1 cs h q)] (-2) := by
  refine mkP (Qc := QPi (-2)) (by decide) (by simp [lg_sl, Value.category]) ?_
  intro p e s m args below meth c ls hx hb hml hr hlk hown ht hK hP hS hl
  have hl : lv_has ls 4 [(0, .ref h), (1, .int a1), (2, .int a2)] := hl
  refine lv_aload_n hx hb dX11_behind_0 rfl (lv_at hl 0 rfl) ?_
  refine lv_iload_n hx hb dX11_behind_1 rfl (lv_at hl 1 rfl) ?_
  refine lv_aload_n hx hb dX11_behind_2 rfl (lv_at hl 0 rfl) ?_
  refine lv_iload_n hx hb dX11_behind_3 rfl (lv_at hl 2 rfl) ?_
  refine lv_i2l hx hb dX11_behind_4 rfl ?_
  refine behI (runVP (As := [.long a2.toInt64]) (rest := [.int a1, .ref h]) ⟨hx, hb, hml, hown, ht⟩ (pX11_isRoom l G cs h q a2.toInt64) okV_RX11_89 ⟨by decide, by decide⟩ hK hP [0, 1] rfl 0 rfl rfl hl.1 rfl (Nat.le_of_ble_eq_true rfl) dX11_behind_5 ⟨by decide, by decide⟩) hP hS (fun _ h => h) (fun H locs hP hS => ?_)
  refine behI (runVP (As := [.int a1, .int 0]) (rest := []) ⟨hx, hb, hml, hown, ht⟩ (pX11_asksRound l G cs h q a1 0) okV_RX11_303 ⟨by decide, by decide⟩ hK hP [0, 1] rfl 0 rfl rfl hl.1 rfl (Nat.le_of_ble_eq_true rfl) dX11_behind_8 ⟨by decide, by decide⟩) hP hS (fun _ h => h) (fun H locs hP hS => ?_)
  refine lv_istore_n (lv' := [(3, .int (-2)), (0, .ref h), (1, .int a1), (2, .int a2)]) hx hb dX11_behind_11 rfl hl (by decide) rfl (fun ls hl => ?_)
  refine lv_iload_n hx hb dX11_behind_12 rfl (lv_at hl 0 rfl) ?_
  refine lv_if_ge (tgt := 18) hx hb dX11_behind_13 (by decide) (fun c1 => False.elim (by revert c1; decide)) (fun c2 => ?_)
  refine lv_iload_n hx hb dX11_behind_16 rfl (lv_at hl 0 rfl) ?_
  exact retPi hx hb hr hlk hS dX11_behind_17 (rfl)

set_option maxRecDepth 100000 in
set_option maxHeartbeats 4000000 in
theorem pX11_disturbs (l : Launch) (G : va_G) (cs : Nat → ClassId) (h : Nat) (q : Nat → Nat) (a1 : Int32) : PureI l yX11_disturbs cX11_disturbs 5 (some .int) 3 G (TY cs) [.ref h, .int a1] [(mc0 cs h q), (mc1 cs h q)] (-2) := by
  refine mkP (Qc := QPi (-2)) (by decide) (by simp [lg_sl, Value.category]) ?_
  intro p e s m args below meth c ls hx hb hml hr hlk hown ht hK hP hS hl
  have hl : lv_has ls 5 [(0, .ref h), (1, .int a1)] := hl
  refine lv_aload_n hx hb dX11_disturbs_0 rfl (lv_at hl 0 rfl) ?_
  refine lv_iload_n hx hb dX11_disturbs_1 rfl (lv_at hl 1 rfl) ?_
  refine lv_iconst (v := 1) hx hb dX11_disturbs_2 (by decide) ?_
  refine behI (runVP (As := [.int a1, .int 1]) (rest := []) ⟨hx, hb, hml, hown, ht⟩ (pX11_asksRound l G cs h q a1 1) okV_RX11_303 ⟨by decide, by decide⟩ hK hP [0, 1] rfl 0 rfl rfl hl.1 rfl (Nat.le_of_ble_eq_true rfl) dX11_disturbs_3 ⟨by decide, by decide⟩) hP hS (fun _ h => h) (fun H locs hP hS => ?_)
  refine lv_istore_n (lv' := [(2, .int (-2)), (0, .ref h), (1, .int a1)]) hx hb dX11_disturbs_6 rfl hl (by decide) rfl (fun ls hl => ?_)
  refine lv_iload_n hx hb dX11_disturbs_7 rfl (lv_at hl 0 rfl) ?_
  refine lv_if_ge (tgt := 13) hx hb dX11_disturbs_8 (by decide) (fun c1 => False.elim (by revert c1; decide)) (fun c2 => ?_)
  refine lv_iload_n hx hb dX11_disturbs_11 rfl (lv_at hl 0 rfl) ?_
  exact retPi hx hb hr hlk hS dX11_disturbs_12 (rfl)

set_option maxRecDepth 100000 in
set_option maxHeartbeats 4000000 in
theorem pX11_stop (l : Launch) (G : va_G) (cs : Nat → ClassId) (h : Nat) (q : Nat → Nat) (a1 : Int32) : PureI l yX11_stop cX11_stop 5 (some .int) 3 G (TY cs) [.ref h, .int a1] [(mc0 cs h q), (mc1 cs h q)] (-2) := by
  refine mkP (Qc := QPi (-2)) (by decide) (by simp [lg_sl, Value.category]) ?_
  intro p e s m args below meth c ls hx hb hml hr hlk hown ht hK hP hS hl
  have hl : lv_has ls 5 [(0, .ref h), (1, .int a1)] := hl
  refine lv_aload_n hx hb dX11_stop_0 rfl (lv_at hl 0 rfl) ?_
  refine lv_iload_n hx hb dX11_stop_1 rfl (lv_at hl 1 rfl) ?_
  refine lv_iconst (v := 1) hx hb dX11_stop_2 (by decide) ?_
  refine behI (runVP (As := [.int a1, .int 1]) (rest := []) ⟨hx, hb, hml, hown, ht⟩ (pX11_asksRound l G cs h q a1 1) okV_RX11_303 ⟨by decide, by decide⟩ hK hP [0, 1] rfl 0 rfl rfl hl.1 rfl (Nat.le_of_ble_eq_true rfl) dX11_stop_3 ⟨by decide, by decide⟩) hP hS (fun _ h => h) (fun H locs hP hS => ?_)
  refine lv_istore_n (lv' := [(2, .int (-2)), (0, .ref h), (1, .int a1)]) hx hb dX11_stop_6 rfl hl (by decide) rfl (fun ls hl => ?_)
  refine lv_iload_n hx hb dX11_stop_7 rfl (lv_at hl 0 rfl) ?_
  refine lv_if_ge (tgt := 13) hx hb dX11_stop_8 (by decide) (fun c1 => False.elim (by revert c1; decide)) (fun c2 => ?_)
  refine lv_iload_n hx hb dX11_stop_11 rfl (lv_at hl 0 rfl) ?_
  exact retPi hx hb hr hlk hS dX11_stop_12 (rfl)

set_option maxRecDepth 100000 in
set_option maxHeartbeats 4000000 in
theorem pX11_doubt (l : Launch) (G : va_G) (cs : Nat → ClassId) (h : Nat) (q : Nat → Nat) (a1 : Int32) (a2 : Int32) : PureI l yX11_doubt cX11_doubt 5 (some .int) 3 G (TY cs) [.ref h, .int a1, .int a2] [(mc0 cs h q), (mc1 cs h q)] (-2) := by
  refine mkP (Qc := QPi (-2)) (by decide) (by simp [lg_sl, Value.category]) ?_
  intro p e s m args below meth c ls hx hb hml hr hlk hown ht hK hP hS hl
  have hl : lv_has ls 5 [(0, .ref h), (1, .int a1), (2, .int a2)] := hl
  refine lv_aload_n hx hb dX11_doubt_0 rfl (lv_at hl 0 rfl) ?_
  refine lv_iload_n hx hb dX11_doubt_1 rfl (lv_at hl 1 rfl) ?_
  refine lv_iload_n hx hb dX11_doubt_2 rfl (lv_at hl 2 rfl) ?_
  refine lv_i2l hx hb dX11_doubt_3 rfl ?_
  refine lv_lconst (v := 0) hx hb dX11_doubt_4 (by decide) ?_
  refine lv_ldc2 hx hb hown (ht _ kl_RX11_273) dX11_doubt_5 ?_
  refine behI (runSP (As := [.long a2.toInt64, .long 0, .long 1000000]) (rest := [.int a1, .ref h]) ⟨hx, hb, hml, hown, ht⟩ (pX11_in l G cs h q a2.toInt64 0 1000000) okS_RX11_79 ⟨by decide, by decide⟩ hK hP [] rfl hl.1 rfl (Nat.le_of_ble_eq_true rfl) dX11_doubt_8 ⟨by decide, by decide⟩) hP hS (fun _ h => h) (fun H locs hP hS => ?_)
  refine behI (runVP (As := [.int a1, .int (inF a2.toInt64 0 1000000)]) (rest := []) ⟨hx, hb, hml, hown, ht⟩ (pX11_asksRound l G cs h q a1 (inF a2.toInt64 0 1000000)) okV_RX11_303 ⟨by decide, by decide⟩ hK hP [0, 1] rfl 0 rfl rfl hl.1 rfl (Nat.le_of_ble_eq_true rfl) dX11_doubt_11 ⟨by decide, by decide⟩) hP hS (fun _ h => h) (fun H locs hP hS => ?_)
  refine lv_istore_n (lv' := [(3, .int (-2)), (0, .ref h), (1, .int a1), (2, .int a2)]) hx hb dX11_doubt_14 rfl hl (by decide) rfl (fun ls hl => ?_)
  refine lv_iload_n hx hb dX11_doubt_15 rfl (lv_at hl 0 rfl) ?_
  refine lv_if_ge (tgt := 21) hx hb dX11_doubt_16 (by decide) (fun c1 => False.elim (by revert c1; decide)) (fun c2 => ?_)
  refine lv_iload_n hx hb dX11_doubt_19 rfl (lv_at hl 0 rfl) ?_
  exact retPi hx hb hr hlk hS dX11_doubt_20 (rfl)

set_option maxRecDepth 100000 in
set_option maxHeartbeats 4000000 in
theorem pX11_walks (l : Launch) (G : va_G) (cs : Nat → ClassId) (h : Nat) (q : Nat → Nat) (a1 : Int32) (a2 : Int32) : PureI l yX11_walks cX11_walks 4 (some .int) 3 G (TY cs) [.ref h, .int a1, .int a2] [(mc0 cs h q), (mc1 cs h q)] (-2) := by
  refine mkP (Qc := QPi (-2)) (by decide) (by simp [lg_sl, Value.category]) ?_
  intro p e s m args below meth c ls hx hb hml hr hlk hown ht hK hP hS hl
  have hl : lv_has ls 4 [(0, .ref h), (1, .int a1), (2, .int a2)] := hl
  refine lv_aload_n hx hb dX11_walks_0 rfl (lv_at hl 0 rfl) ?_
  refine lv_iload_n hx hb dX11_walks_1 rfl (lv_at hl 1 rfl) ?_
  refine lv_aload_n hx hb dX11_walks_2 rfl (lv_at hl 0 rfl) ?_
  refine lv_iload_n hx hb dX11_walks_3 rfl (lv_at hl 2 rfl) ?_
  refine lv_i2l hx hb dX11_walks_4 rfl ?_
  refine behI (runVP (As := [.long a2.toInt64]) (rest := [.int a1, .ref h]) ⟨hx, hb, hml, hown, ht⟩ (pX11_isRoom l G cs h q a2.toInt64) okV_RX11_89 ⟨by decide, by decide⟩ hK hP [0, 1] rfl 0 rfl rfl hl.1 rfl (Nat.le_of_ble_eq_true rfl) dX11_walks_5 ⟨by decide, by decide⟩) hP hS (fun _ h => h) (fun H locs hP hS => ?_)
  refine behI (runVP (As := [.int a1, .int 0]) (rest := []) ⟨hx, hb, hml, hown, ht⟩ (pX11_asksRound l G cs h q a1 0) okV_RX11_303 ⟨by decide, by decide⟩ hK hP [0, 1] rfl 0 rfl rfl hl.1 rfl (Nat.le_of_ble_eq_true rfl) dX11_walks_8 ⟨by decide, by decide⟩) hP hS (fun _ h => h) (fun H locs hP hS => ?_)
  refine lv_istore_n (lv' := [(3, .int (-2)), (0, .ref h), (1, .int a1), (2, .int a2)]) hx hb dX11_walks_11 rfl hl (by decide) rfl (fun ls hl => ?_)
  refine lv_iload_n hx hb dX11_walks_12 rfl (lv_at hl 0 rfl) ?_
  refine lv_if_ge (tgt := 20) hx hb dX11_walks_13 (by decide) (fun c1 => False.elim (by revert c1; decide)) (fun c2 => ?_)
  refine lv_iload_n hx hb dX11_walks_16 rfl (lv_at hl 0 rfl) ?_
  refine lv_goto (tgt := 34) hx hb dX11_walks_17 (by decide) ?_
  exact retPi hx hb hr hlk hS dX11_walks_34 (rfl)

set_option maxRecDepth 100000 in
set_option maxHeartbeats 4000000 in
theorem pX11_penny (l : Launch) (G : va_G) (cs : Nat → ClassId) (h : Nat) (q : Nat → Nat) (a1 : Int32) : PureI l yX11_penny cX11_penny 8 (some .int) 3 G (TY cs) [.ref h, .int a1] [(mc0 cs h q), (mc1 cs h q)] (-2) := by
  refine mkP (Qc := QPi (-2)) (by decide) (by simp [lg_sl, Value.category]) ?_
  intro p e s m args below meth c ls hx hb hml hr hlk hown ht hK hP hS hl
  have hl : lv_has ls 8 [(0, .ref h), (1, .int a1)] := hl
  refine lv_aload_n hx hb dX11_penny_0 rfl (lv_at hl 0 rfl) ?_
  refine lv_iload_n hx hb dX11_penny_1 rfl (lv_at hl 1 rfl) ?_
  refine lv_iconst (v := 1) hx hb dX11_penny_2 (by decide) ?_
  refine behI (runVP (As := [.int a1, .int 1]) (rest := []) ⟨hx, hb, hml, hown, ht⟩ (pX11_asksRound l G cs h q a1 1) okV_RX11_303 ⟨by decide, by decide⟩ hK hP [0, 1] rfl 0 rfl rfl hl.1 rfl (Nat.le_of_ble_eq_true rfl) dX11_penny_3 ⟨by decide, by decide⟩) hP hS (fun _ h => h) (fun H locs hP hS => ?_)
  refine lv_istore_n (lv' := [(2, .int (-2)), (0, .ref h), (1, .int a1)]) hx hb dX11_penny_6 rfl hl (by decide) rfl (fun ls hl => ?_)
  refine lv_iload_n hx hb dX11_penny_7 rfl (lv_at hl 0 rfl) ?_
  refine lv_if_ge (tgt := 13) hx hb dX11_penny_8 (by decide) (fun c1 => False.elim (by revert c1; decide)) (fun c2 => ?_)
  refine lv_iload_n hx hb dX11_penny_11 rfl (lv_at hl 0 rfl) ?_
  exact retPi hx hb hr hlk hS dX11_penny_12 (rfl)

set_option maxRecDepth 100000 in
set_option maxHeartbeats 4000000 in
theorem pX11_best (l : Launch) (G : va_G) (cs : Nat → ClassId) (h : Nat) (q : Nat → Nat) (a1 : Int32) (a2 : Int32) : PureI l yX11_best cX11_best 3 (some .int) 2 G (TY cs) [.ref h, .int a1, .int a2] [(mc0 cs h q), (mc1 cs h q)] (-2) := by
  refine mkP (Qc := QPi (-2)) (by decide) (by simp [lg_sl, Value.category]) ?_
  intro p e s m args below meth c ls hx hb hml hr hlk hown ht hK hP hS hl
  have hl : lv_has ls 3 [(0, .ref h), (1, .int a1), (2, .int a2)] := hl
  refine lv_aload_n hx hb dX11_best_0 rfl (lv_at hl 0 rfl) ?_
  refine lv_iload_n hx hb dX11_best_1 rfl (lv_at hl 1 rfl) ?_
  refine lv_i2l hx hb dX11_best_2 rfl ?_
  refine behI (runVP (As := [.long a1.toInt64]) (rest := []) ⟨hx, hb, hml, hown, ht⟩ (pX11_isRoom l G cs h q a1.toInt64) okV_RX11_89 ⟨by decide, by decide⟩ hK hP [0, 1] rfl 0 rfl rfl hl.1 rfl (Nat.le_of_ble_eq_true rfl) dX11_best_3 ⟨by decide, by decide⟩) hP hS (fun _ h => h) (fun H locs hP hS => ?_)
  refine lv_if_eq (tgt := 30) hx hb dX11_best_6 (by decide) (fun c2 => ?_) (fun c1 => False.elim (by revert c1; decide))
  refine lv_bipush (v := (-2)) hx hb dX11_best_30 (by decide) ?_
  exact retPi hx hb hr hlk hS dX11_best_32 (rfl)

set_option maxRecDepth 100000 in
set_option maxHeartbeats 4000000 in
theorem pX11_goes (l : Launch) (G : va_G) (cs : Nat → ClassId) (h : Nat) (q : Nat → Nat) (a1 : Int32) (a2 : Int32) (a3 : Int32) : PureI l yX11_goes cX11_goes 4 (some .int) 2 G (TY cs) [.ref h, .int a1, .int a2, .int a3] [(mc0 cs h q), (mc1 cs h q)] (-2) := by
  refine mkP (Qc := QPi (-2)) (by decide) (by simp [lg_sl, Value.category]) ?_
  intro p e s m args below meth c ls hx hb hml hr hlk hown ht hK hP hS hl
  have hl : lv_has ls 4 [(0, .ref h), (1, .int a1), (2, .int a2), (3, .int a3)] := hl
  refine lv_aload_n hx hb dX11_goes_0 rfl (lv_at hl 0 rfl) ?_
  refine lv_iload_n hx hb dX11_goes_1 rfl (lv_at hl 1 rfl) ?_
  refine lv_i2l hx hb dX11_goes_2 rfl ?_
  refine behI (runVP (As := [.long a1.toInt64]) (rest := []) ⟨hx, hb, hml, hown, ht⟩ (pX11_isRoom l G cs h q a1.toInt64) okV_RX11_89 ⟨by decide, by decide⟩ hK hP [0, 1] rfl 0 rfl rfl hl.1 rfl (Nat.le_of_ble_eq_true rfl) dX11_goes_3 ⟨by decide, by decide⟩) hP hS (fun _ h => h) (fun H locs hP hS => ?_)
  refine lv_if_eq (tgt := 21) hx hb dX11_goes_6 (by decide) (fun c2 => ?_) (fun c1 => False.elim (by revert c1; decide))
  refine lv_bipush (v := (-2)) hx hb dX11_goes_21 (by decide) ?_
  exact retPi hx hb hr hlk hS dX11_goes_23 (rfl)

set_option maxRecDepth 100000 in
set_option maxHeartbeats 4000000 in
theorem pX11_begins (l : Launch) (G : va_G) (cs : Nat → ClassId) (h : Nat) (q : Nat → Nat) (a1 : Int32) : PureI l yX11_begins cX11_begins 6 (some .int) 1 G (TY cs) [.ref h, .int a1] [(mc0 cs h q), (mc1 cs h q)] (-2) := by
  refine mkP (Qc := QPi (-2)) (by decide) (by simp [lg_sl, Value.category]) ?_
  intro p e s m args below meth c ls hx hb hml hr hlk hown ht hK hP hS hl
  have hl : lv_has ls 6 [(0, .ref h), (1, .int a1)] := hl
  refine lv_iload_n hx hb dX11_begins_0 rfl (lv_at hl 1 rfl) ?_
  refine lv_i2l hx hb dX11_begins_1 rfl ?_
  refine lv_lconst (v := 0) hx hb dX11_begins_2 (by decide) ?_
  refine lv_ldc2 hx hb hown (ht _ kl_RX11_325) dX11_begins_3 ?_
  refine behI (runSP (As := [.long a1.toInt64, .long 0, .long 5]) (rest := []) ⟨hx, hb, hml, hown, ht⟩ (pX11_in l G cs h q a1.toInt64 0 5) okS_RX11_79 ⟨by decide, by decide⟩ hK hP [] rfl hl.1 rfl (Nat.le_of_ble_eq_true rfl) dX11_begins_6 ⟨by decide, by decide⟩) hP hS (fun _ h => h) (fun H locs hP hS => ?_)
  refine lv_if_eq (tgt := 21) hx hb dX11_begins_9 (by decide) (fun c1 => ?_) (fun c1 => ?_)
  · refine lv_bipush (v := (-2)) hx hb dX11_begins_21 (by decide) ?_
    exact retPi hx hb hr hlk hS dX11_begins_23 (rfl)
  · refine lv_aload_n hx hb dX11_begins_12 rfl (lv_at hl 0 rfl) ?_
    refine getF hx hb ht hown hK hP iTX11 0 1 rfl rfl (by decide) fl_RX11_9 rfl dX11_begins_13 ?_
    refine lv_iconst (v := 4) hx hb dX11_begins_16 (by decide) ?_
    refine va_iald hx hb hK.1 hP 1 0 rfl rfl (show ¬ (_ ∨ _) by decide) dX11_begins_17 ?_
    refine lv_topi (fun v2 ev2 => ?_)
    obtain rfl : v2 = 0 := ev2.trans rfl
    refine lv_if_ne (tgt := 24) hx hb dX11_begins_18 (by decide) (fun c3 => False.elim (by revert c3; decide)) (fun c4 => ?_)
    refine lv_bipush (v := (-2)) hx hb dX11_begins_21 (by decide) ?_
    exact retPi hx hb hr hlk hS dX11_begins_23 (rfl)

set_option maxRecDepth 100000 in
set_option maxHeartbeats 4000000 in
theorem pX11_soon (l : Launch) (G : va_G) (cs : Nat → ClassId) (h : Nat) (q : Nat → Nat) (a1 : Int32) (a2 : Int32) : PureI l yX11_soon cX11_soon 4 (some .int) 2 G (TY cs) [.ref h, .int a1, .int a2] [(mc0 cs h q), (mc1 cs h q)] (-2) := by
  refine mkP (Qc := QPi (-2)) (by decide) (by simp [lg_sl, Value.category]) ?_
  intro p e s m args below meth c ls hx hb hml hr hlk hown ht hK hP hS hl
  have hl : lv_has ls 4 [(0, .ref h), (1, .int a1), (2, .int a2)] := hl
  refine lv_aload_n hx hb dX11_soon_0 rfl (lv_at hl 0 rfl) ?_
  refine lv_iload_n hx hb dX11_soon_1 rfl (lv_at hl 1 rfl) ?_
  refine lv_i2l hx hb dX11_soon_2 rfl ?_
  refine behI (runVP (As := [.long a1.toInt64]) (rest := []) ⟨hx, hb, hml, hown, ht⟩ (pX11_isRoom l G cs h q a1.toInt64) okV_RX11_89 ⟨by decide, by decide⟩ hK hP [0, 1] rfl 0 rfl rfl hl.1 rfl (Nat.le_of_ble_eq_true rfl) dX11_soon_3 ⟨by decide, by decide⟩) hP hS (fun _ h => h) (fun H locs hP hS => ?_)
  refine lv_if_eq (tgt := 21) hx hb dX11_soon_6 (by decide) (fun c2 => ?_) (fun c1 => False.elim (by revert c1; decide))
  refine lv_bipush (v := (-2)) hx hb dX11_soon_21 (by decide) ?_
  exact retPi hx hb hr hlk hS dX11_soon_23 (rfl)

set_option maxRecDepth 100000 in
set_option maxHeartbeats 4000000 in
theorem pX11_far (l : Launch) (G : va_G) (cs : Nat → ClassId) (h : Nat) (q : Nat → Nat) (a1 : Int32) (a2 : Int32) : PureI l yX11_far cX11_far 5 (some .int) 2 G (TY cs) [.ref h, .int a1, .int a2] [(mc0 cs h q), (mc1 cs h q)] (-2) := by
  refine mkP (Qc := QPi (-2)) (by decide) (by simp [lg_sl, Value.category]) ?_
  intro p e s m args below meth c ls hx hb hml hr hlk hown ht hK hP hS hl
  have hl : lv_has ls 5 [(0, .ref h), (1, .int a1), (2, .int a2)] := hl
  refine lv_aload_n hx hb dX11_far_0 rfl (lv_at hl 0 rfl) ?_
  refine lv_iload_n hx hb dX11_far_1 rfl (lv_at hl 1 rfl) ?_
  refine lv_i2l hx hb dX11_far_2 rfl ?_
  refine behI (runVP (As := [.long a1.toInt64]) (rest := []) ⟨hx, hb, hml, hown, ht⟩ (pX11_isRoom l G cs h q a1.toInt64) okV_RX11_89 ⟨by decide, by decide⟩ hK hP [0, 1] rfl 0 rfl rfl hl.1 rfl (Nat.le_of_ble_eq_true rfl) dX11_far_3 ⟨by decide, by decide⟩) hP hS (fun _ h => h) (fun H locs hP hS => ?_)
  refine lv_if_eq (tgt := 18) hx hb dX11_far_6 (by decide) (fun c2 => ?_) (fun c1 => False.elim (by revert c1; decide))
  refine lv_bipush (v := (-2)) hx hb dX11_far_18 (by decide) ?_
  exact retPi hx hb hr hlk hS dX11_far_20 (rfl)

set_option maxRecDepth 100000 in
set_option maxHeartbeats 4000000 in
theorem pX11_hangs (l : Launch) (G : va_G) (cs : Nat → ClassId) (h : Nat) (q : Nat → Nat) (a1 : Int32) : PureI l yX11_hangs cX11_hangs 4 (some .int) 3 G (TY cs) [.ref h, .int a1] [(mc0 cs h q), (mc1 cs h q)] (-2) := by
  refine mkP (Qc := QPi (-2)) (by decide) (by simp [lg_sl, Value.category]) ?_
  intro p e s m args below meth c ls hx hb hml hr hlk hown ht hK hP hS hl
  have hl : lv_has ls 4 [(0, .ref h), (1, .int a1)] := hl
  refine lv_aload_n hx hb dX11_hangs_0 rfl (lv_at hl 0 rfl) ?_
  refine lv_iload_n hx hb dX11_hangs_1 rfl (lv_at hl 1 rfl) ?_
  refine lv_iconst (v := 1) hx hb dX11_hangs_2 (by decide) ?_
  refine behI (runVP (As := [.int a1, .int 1]) (rest := []) ⟨hx, hb, hml, hown, ht⟩ (pX11_asksRound l G cs h q a1 1) okV_RX11_303 ⟨by decide, by decide⟩ hK hP [0, 1] rfl 0 rfl rfl hl.1 rfl (Nat.le_of_ble_eq_true rfl) dX11_hangs_3 ⟨by decide, by decide⟩) hP hS (fun _ h => h) (fun H locs hP hS => ?_)
  refine lv_istore_n (lv' := [(2, .int (-2)), (0, .ref h), (1, .int a1)]) hx hb dX11_hangs_6 rfl hl (by decide) rfl (fun ls hl => ?_)
  refine lv_iload_n hx hb dX11_hangs_7 rfl (lv_at hl 0 rfl) ?_
  refine lv_if_ge (tgt := 13) hx hb dX11_hangs_8 (by decide) (fun c1 => False.elim (by revert c1; decide)) (fun c2 => ?_)
  refine lv_iload_n hx hb dX11_hangs_11 rfl (lv_at hl 0 rfl) ?_
  exact retPi hx hb hr hlk hS dX11_hangs_12 (rfl)

set_option maxRecDepth 100000 in
set_option maxHeartbeats 4000000 in
theorem pX11_rest (l : Launch) (G : va_G) (cs : Nat → ClassId) (h : Nat) (q : Nat → Nat)  : PureI l yX11_rest cX11_rest 4 (some .int) 1 G (TY cs) [.ref h] [(mc0 cs h q), (mc1 cs h q)] (-2) := by
  refine mkP (Qc := QPi (-2)) (by decide) (by simp [lg_sl, Value.category]) ?_
  intro p e s m args below meth c ls hx hb hml hr hlk hown ht hK hP hS hl
  have hl : lv_has ls 4 [(0, .ref h)] := hl
  refine lv_aload_n hx hb dX11_rest_0 rfl (lv_at hl 0 rfl) ?_
  refine behI (runVP (As := []) (rest := []) ⟨hx, hb, hml, hown, ht⟩ (pX11_isHouse l G cs h q ) okV_RX11_83 ⟨by decide, by decide⟩ hK hP [0, 1] rfl 0 rfl rfl hl.1 rfl (Nat.le_of_ble_eq_true rfl) dX11_rest_1 ⟨by decide, by decide⟩) hP hS (fun _ h => h) (fun H locs hP hS => ?_)
  refine lv_if_ne (tgt := 10) hx hb dX11_rest_4 (by decide) (fun c1 => False.elim (by revert c1; decide)) (fun c2 => ?_)
  refine lv_bipush (v := (-2)) hx hb dX11_rest_7 (by decide) ?_
  exact retPi hx hb hr hlk hS dX11_rest_9 (rfl)

set_option maxRecDepth 100000 in
set_option maxHeartbeats 4000000 in
theorem pX11_trumpet (l : Launch) (G : va_G) (cs : Nat → ClassId) (h : Nat) (q : Nat → Nat)  : PureI l yX11_trumpet cX11_trumpet 3 (some .int) 1 G (TY cs) [.ref h] [(mc0 cs h q), (mc1 cs h q)] (-2) := by
  refine mkP (Qc := QPi (-2)) (by decide) (by simp [lg_sl, Value.category]) ?_
  intro p e s m args below meth c ls hx hb hml hr hlk hown ht hK hP hS hl
  have hl : lv_has ls 3 [(0, .ref h)] := hl
  refine lv_aload_n hx hb dX11_trumpet_0 rfl (lv_at hl 0 rfl) ?_
  refine behI (runVP (As := []) (rest := []) ⟨hx, hb, hml, hown, ht⟩ (pX11_isHouse l G cs h q ) okV_RX11_83 ⟨by decide, by decide⟩ hK hP [0, 1] rfl 0 rfl rfl hl.1 rfl (Nat.le_of_ble_eq_true rfl) dX11_trumpet_1 ⟨by decide, by decide⟩) hP hS (fun _ h => h) (fun H locs hP hS => ?_)
  refine lv_if_ne (tgt := 10) hx hb dX11_trumpet_4 (by decide) (fun c1 => False.elim (by revert c1; decide)) (fun c2 => ?_)
  refine lv_bipush (v := (-2)) hx hb dX11_trumpet_7 (by decide) ?_
  exact retPi hx hb hr hlk hS dX11_trumpet_9 (rfl)

set_option maxRecDepth 100000 in
set_option maxHeartbeats 4000000 in
theorem pX11_quiet (l : Launch) (G : va_G) (cs : Nat → ClassId) (h : Nat) (q : Nat → Nat) (a1 : Int32) : PureI l yX11_quiet cX11_quiet 2 (some .int) 1 G (TY cs) [.ref h, .int a1] [(mc0 cs h q), (mc1 cs h q)] (-2) := by
  refine mkP (Qc := QPi (-2)) (by decide) (by simp [lg_sl, Value.category]) ?_
  intro p e s m args below meth c ls hx hb hml hr hlk hown ht hK hP hS hl
  have hl : lv_has ls 2 [(0, .ref h), (1, .int a1)] := hl
  refine lv_aload_n hx hb dX11_quiet_0 rfl (lv_at hl 0 rfl) ?_
  refine behI (runVP (As := []) (rest := []) ⟨hx, hb, hml, hown, ht⟩ (pX11_isHouse l G cs h q ) okV_RX11_83 ⟨by decide, by decide⟩ hK hP [0, 1] rfl 0 rfl rfl hl.1 rfl (Nat.le_of_ble_eq_true rfl) dX11_quiet_1 ⟨by decide, by decide⟩) hP hS (fun _ h => h) (fun H locs hP hS => ?_)
  refine lv_if_eq (tgt := 19) hx hb dX11_quiet_4 (by decide) (fun c2 => ?_) (fun c1 => False.elim (by revert c1; decide))
  refine lv_bipush (v := (-2)) hx hb dX11_quiet_19 (by decide) ?_
  exact retPi hx hb hr hlk hS dX11_quiet_21 (rfl)

set_option maxRecDepth 100000 in
set_option maxHeartbeats 4000000 in
theorem pX11_quietly (l : Launch) (G : va_G) (cs : Nat → ClassId) (h : Nat) (q : Nat → Nat) (a1 : Int32) : PureI l yX11_quietly cX11_quietly 2 (some .int) 1 G (TY cs) [.ref h, .int a1] [(mc0 cs h q), (mc1 cs h q)] (-2) := by
  refine mkP (Qc := QPi (-2)) (by decide) (by simp [lg_sl, Value.category]) ?_
  intro p e s m args below meth c ls hx hb hml hr hlk hown ht hK hP hS hl
  have hl : lv_has ls 2 [(0, .ref h), (1, .int a1)] := hl
  refine lv_aload_n hx hb dX11_quietly_0 rfl (lv_at hl 0 rfl) ?_
  refine behI (runVP (As := []) (rest := []) ⟨hx, hb, hml, hown, ht⟩ (pX11_isHouse l G cs h q ) okV_RX11_83 ⟨by decide, by decide⟩ hK hP [0, 1] rfl 0 rfl rfl hl.1 rfl (Nat.le_of_ble_eq_true rfl) dX11_quietly_1 ⟨by decide, by decide⟩) hP hS (fun _ h => h) (fun H locs hP hS => ?_)
  refine lv_if_eq (tgt := 27) hx hb dX11_quietly_4 (by decide) (fun c2 => ?_) (fun c1 => False.elim (by revert c1; decide))
  refine lv_bipush (v := (-2)) hx hb dX11_quietly_27 (by decide) ?_
  exact retPi hx hb hr hlk hS dX11_quietly_29 (rfl)
end
section
set_option maxRecDepth 100000 in
set_option maxHeartbeats 4000000 in
theorem pX11_card (l : Launch) (G : va_G) (cs : Nat → ClassId) (h : Nat) (q : Nat → Nat) (a1 : Int32) (a2 : Int32) : PureI l yX11_card cX11_card 3 (some .int) 2 G (TY cs) [.ref h, .int a1, .int a2] [(mc0 cs h q), (mc1 cs h q)] (-2) := by
  refine mkP (Qc := QPi (-2)) (by decide) (by simp [lg_sl, Value.category]) ?_
  intro p e s m args below meth c ls hx hb hml hr hlk hown ht hK hP hS hl
  have hl : lv_has ls 3 [(0, .ref h), (1, .int a1), (2, .int a2)] := hl
  refine lv_aload_n hx hb dX11_card_0 rfl (lv_at hl 0 rfl) ?_
  refine lv_iload_n hx hb dX11_card_1 rfl (lv_at hl 1 rfl) ?_
  refine lv_i2l hx hb dX11_card_2 rfl ?_
  refine behI (runVP (As := [.long a1.toInt64]) (rest := []) ⟨hx, hb, hml, hown, ht⟩ (pX11_isRoom l G cs h q a1.toInt64) okV_RX11_89 ⟨by decide, by decide⟩ hK hP [0, 1] rfl 0 rfl rfl hl.1 rfl (Nat.le_of_ble_eq_true rfl) dX11_card_3 ⟨by decide, by decide⟩) hP hS (fun _ h => h) (fun H locs hP hS => ?_)
  refine lv_if_eq (tgt := 30) hx hb dX11_card_6 (by decide) (fun c2 => ?_) (fun c1 => False.elim (by revert c1; decide))
  refine lv_bipush (v := (-2)) hx hb dX11_card_30 (by decide) ?_
  exact retPi hx hb hr hlk hS dX11_card_32 (rfl)

set_option maxRecDepth 100000 in
set_option maxHeartbeats 4000000 in
theorem pX11_desk (l : Launch) (G : va_G) (cs : Nat → ClassId) (h : Nat) (q : Nat → Nat) (a1 : Int32) : PureI l yX11_desk cX11_desk 6 (some .int) 0 G (TY cs) [.ref h, .int a1] [(mc0 cs h q), (mc1 cs h q)] (-2) := by
  refine mkP (Qc := QPi (-2)) (by decide) (by simp [lg_sl, Value.category]) ?_
  intro p e s m args below meth c ls hx hb hml hr hlk hown ht hK hP hS hl
  have hl : lv_has ls 6 [(0, .ref h), (1, .int a1)] := hl
  refine lv_aload_n hx hb dX11_desk_0 rfl (lv_at hl 0 rfl) ?_
  refine getF hx hb ht hown hK hP iTX11 0 1 rfl rfl (by decide) fl_RX11_9 rfl dX11_desk_1 ?_
  refine lv_iconst (v := 4) hx hb dX11_desk_4 (by decide) ?_
  refine va_iald hx hb hK.1 hP 1 0 rfl rfl (show ¬ (_ ∨ _) by decide) dX11_desk_5 ?_
  refine lv_topi (fun v1 ev1 => ?_)
  obtain rfl : v1 = 0 := ev1.trans rfl
  refine lv_if_eq (tgt := 21) hx hb dX11_desk_6 (by decide) (fun c3 => ?_) (fun c2 => False.elim (by revert c2; decide))
  refine lv_bipush (v := (-2)) hx hb dX11_desk_21 (by decide) ?_
  exact retPi hx hb hr hlk hS dX11_desk_23 (rfl)

set_option maxRecDepth 100000 in
set_option maxHeartbeats 4000000 in
theorem pX11_one (l : Launch) (G : va_G) (cs : Nat → ClassId) (h : Nat) (q : Nat → Nat) (a1 : Int32) : PureI l yX11_one cX11_one 2 (some .int) 2 G (TY cs) [.ref h, .int a1] [(mc0 cs h q), (mc1 cs h q)] (-2) := by
  refine mkP (Qc := QPi (-2)) (by decide) (by simp [lg_sl, Value.category]) ?_
  intro p e s m args below meth c ls hx hb hml hr hlk hown ht hK hP hS hl
  have hl : lv_has ls 2 [(0, .ref h), (1, .int a1)] := hl
  refine lv_aload_n hx hb dX11_one_0 rfl (lv_at hl 0 rfl) ?_
  refine lv_iload_n hx hb dX11_one_1 rfl (lv_at hl 1 rfl) ?_
  refine lv_i2l hx hb dX11_one_2 rfl ?_
  refine behI (runVP (As := [.long a1.toInt64]) (rest := []) ⟨hx, hb, hml, hown, ht⟩ (pX11_isRoom l G cs h q a1.toInt64) okV_RX11_89 ⟨by decide, by decide⟩ hK hP [0, 1] rfl 0 rfl rfl hl.1 rfl (Nat.le_of_ble_eq_true rfl) dX11_one_3 ⟨by decide, by decide⟩) hP hS (fun _ h => h) (fun H locs hP hS => ?_)
  refine lv_if_eq (tgt := 23) hx hb dX11_one_6 (by decide) (fun c2 => ?_) (fun c1 => False.elim (by revert c1; decide))
  refine lv_bipush (v := (-2)) hx hb dX11_one_23 (by decide) ?_
  exact retPi hx hb hr hlk hS dX11_one_25 (rfl)

set_option maxRecDepth 100000 in
set_option maxHeartbeats 4000000 in
theorem pX11_two (l : Launch) (G : va_G) (cs : Nat → ClassId) (h : Nat) (q : Nat → Nat) (a1 : Int32) (a2 : Int32) : PureI l yX11_two cX11_two 3 (some .int) 2 G (TY cs) [.ref h, .int a1, .int a2] [(mc0 cs h q), (mc1 cs h q)] (-2) := by
  refine mkP (Qc := QPi (-2)) (by decide) (by simp [lg_sl, Value.category]) ?_
  intro p e s m args below meth c ls hx hb hml hr hlk hown ht hK hP hS hl
  have hl : lv_has ls 3 [(0, .ref h), (1, .int a1), (2, .int a2)] := hl
  refine lv_aload_n hx hb dX11_two_0 rfl (lv_at hl 0 rfl) ?_
  refine lv_iload_n hx hb dX11_two_1 rfl (lv_at hl 1 rfl) ?_
  refine lv_i2l hx hb dX11_two_2 rfl ?_
  refine behI (runVP (As := [.long a1.toInt64]) (rest := []) ⟨hx, hb, hml, hown, ht⟩ (pX11_isRoom l G cs h q a1.toInt64) okV_RX11_89 ⟨by decide, by decide⟩ hK hP [0, 1] rfl 0 rfl rfl hl.1 rfl (Nat.le_of_ble_eq_true rfl) dX11_two_3 ⟨by decide, by decide⟩) hP hS (fun _ h => h) (fun H locs hP hS => ?_)
  refine lv_if_eq (tgt := 32) hx hb dX11_two_6 (by decide) (fun c2 => ?_) (fun c1 => False.elim (by revert c1; decide))
  refine lv_bipush (v := (-2)) hx hb dX11_two_32 (by decide) ?_
  exact retPi hx hb hr hlk hS dX11_two_34 (rfl)

set_option maxRecDepth 100000 in
set_option maxHeartbeats 4000000 in
theorem pX11_way (l : Launch) (G : va_G) (cs : Nat → ClassId) (h : Nat) (q : Nat → Nat) (a1 : Int32) (a2 : Int32) (a3 : Int32) (a4 : Int32) : PureI l yX11_way cX11_way 6 (some .int) 2 G (TY cs) [.ref h, .int a1, .int a2, .int a3, .int a4] [(mc0 cs h q), (mc1 cs h q)] (-2) := by
  refine mkP (Qc := QPi (-2)) (by decide) (by simp [lg_sl, Value.category]) ?_
  intro p e s m args below meth c ls hx hb hml hr hlk hown ht hK hP hS hl
  have hl : lv_has ls 6 [(0, .ref h), (1, .int a1), (2, .int a2), (3, .int a3), (4, .int a4)] := hl
  refine lv_aload_n hx hb dX11_way_0 rfl (lv_at hl 0 rfl) ?_
  refine lv_iload_n hx hb dX11_way_1 rfl (lv_at hl 1 rfl) ?_
  refine lv_i2l hx hb dX11_way_2 rfl ?_
  refine behI (runVP (As := [.long a1.toInt64]) (rest := []) ⟨hx, hb, hml, hown, ht⟩ (pX11_isRoom l G cs h q a1.toInt64) okV_RX11_89 ⟨by decide, by decide⟩ hK hP [0, 1] rfl 0 rfl rfl hl.1 rfl (Nat.le_of_ble_eq_true rfl) dX11_way_3 ⟨by decide, by decide⟩) hP hS (fun _ h => h) (fun H locs hP hS => ?_)
  refine lv_if_eq (tgt := 28) hx hb dX11_way_6 (by decide) (fun c2 => ?_) (fun c1 => False.elim (by revert c1; decide))
  refine lv_bipush (v := (-2)) hx hb dX11_way_28 (by decide) ?_
  exact retPi hx hb hr hlk hS dX11_way_30 (rfl)

set_option maxRecDepth 100000 in
set_option maxHeartbeats 4000000 in
theorem pX11_slips (l : Launch) (G : va_G) (cs : Nat → ClassId) (h : Nat) (q : Nat → Nat) (a1 : Int32) (a2 : Int32) : PureI l yX11_slips cX11_slips 7 (some .int) 3 G (TY cs) [.ref h, .int a1, .int a2] [(mc0 cs h q), (mc1 cs h q)] (-2) := by
  refine mkP (Qc := QPi (-2)) (by decide) (by simp [lg_sl, Value.category]) ?_
  intro p e s m args below meth c ls hx hb hml hr hlk hown ht hK hP hS hl
  have hl : lv_has ls 7 [(0, .ref h), (1, .int a1), (2, .int a2)] := hl
  refine lv_aload_n hx hb dX11_slips_0 rfl (lv_at hl 0 rfl) ?_
  refine lv_iload_n hx hb dX11_slips_1 rfl (lv_at hl 1 rfl) ?_
  refine lv_aload_n hx hb dX11_slips_2 rfl (lv_at hl 0 rfl) ?_
  refine lv_iload_n hx hb dX11_slips_3 rfl (lv_at hl 2 rfl) ?_
  refine lv_i2l hx hb dX11_slips_4 rfl ?_
  refine behI (runVP (As := [.long a2.toInt64]) (rest := [.int a1, .ref h]) ⟨hx, hb, hml, hown, ht⟩ (pX11_isRoom l G cs h q a2.toInt64) okV_RX11_89 ⟨by decide, by decide⟩ hK hP [0, 1] rfl 0 rfl rfl hl.1 rfl (Nat.le_of_ble_eq_true rfl) dX11_slips_5 ⟨by decide, by decide⟩) hP hS (fun _ h => h) (fun H locs hP hS => ?_)
  refine behI (runVP (As := [.int a1, .int 0]) (rest := []) ⟨hx, hb, hml, hown, ht⟩ (pX11_asksRound l G cs h q a1 0) okV_RX11_303 ⟨by decide, by decide⟩ hK hP [0, 1] rfl 0 rfl rfl hl.1 rfl (Nat.le_of_ble_eq_true rfl) dX11_slips_8 ⟨by decide, by decide⟩) hP hS (fun _ h => h) (fun H locs hP hS => ?_)
  refine lv_istore_n (lv' := [(3, .int (-2)), (0, .ref h), (1, .int a1), (2, .int a2)]) hx hb dX11_slips_11 rfl hl (by decide) rfl (fun ls hl => ?_)
  refine lv_iload_n hx hb dX11_slips_12 rfl (lv_at hl 0 rfl) ?_
  refine lv_if_ge (tgt := 18) hx hb dX11_slips_13 (by decide) (fun c1 => False.elim (by revert c1; decide)) (fun c2 => ?_)
  refine lv_iload_n hx hb dX11_slips_16 rfl (lv_at hl 0 rfl) ?_
  exact retPi hx hb hr hlk hS dX11_slips_17 (rfl)

set_option maxRecDepth 100000 in
set_option maxHeartbeats 4000000 in
theorem pX11_boys (l : Launch) (G : va_G) (cs : Nat → ClassId) (h : Nat) (q : Nat → Nat)  : PureI l yX11_boys cX11_boys 2 (some .int) 0 G (TY cs) [.ref h] [(mc0 cs h q), (mc1 cs h q)] (-2) := by
  refine mkP (Qc := QPi (-2)) (by decide) (by simp [lg_sl, Value.category]) ?_
  intro p e s m args below meth c ls hx hb hml hr hlk hown ht hK hP hS hl
  have hl : lv_has ls 2 [(0, .ref h)] := hl
  refine lv_aload_n hx hb dX11_boys_0 rfl (lv_at hl 0 rfl) ?_
  refine getF hx hb ht hown hK hP iTX11 0 1 rfl rfl (by decide) fl_RX11_9 rfl dX11_boys_1 ?_
  refine lv_iconst (v := 4) hx hb dX11_boys_4 (by decide) ?_
  refine va_iald hx hb hK.1 hP 1 0 rfl rfl (show ¬ (_ ∨ _) by decide) dX11_boys_5 ?_
  refine lv_topi (fun v1 ev1 => ?_)
  obtain rfl : v1 = 0 := ev1.trans rfl
  refine lv_if_ne (tgt := 12) hx hb dX11_boys_6 (by decide) (fun c2 => False.elim (by revert c2; decide)) (fun c3 => ?_)
  refine lv_bipush (v := (-2)) hx hb dX11_boys_9 (by decide) ?_
  exact retPi hx hb hr hlk hS dX11_boys_11 (rfl)

set_option maxRecDepth 100000 in
set_option maxHeartbeats 4000000 in
theorem pX11_pairs (l : Launch) (G : va_G) (cs : Nat → ClassId) (h : Nat) (q : Nat → Nat)  : PureI l yX11_pairs cX11_pairs 4 (some .int) 0 G (TY cs) [.ref h] [(mc0 cs h q), (mc1 cs h q)] (-2) := by
  refine mkP (Qc := QPi (-2)) (by decide) (by simp [lg_sl, Value.category]) ?_
  intro p e s m args below meth c ls hx hb hml hr hlk hown ht hK hP hS hl
  have hl : lv_has ls 4 [(0, .ref h)] := hl
  refine lv_aload_n hx hb dX11_pairs_0 rfl (lv_at hl 0 rfl) ?_
  refine getF hx hb ht hown hK hP iTX11 0 1 rfl rfl (by decide) fl_RX11_9 rfl dX11_pairs_1 ?_
  refine lv_iconst (v := 4) hx hb dX11_pairs_4 (by decide) ?_
  refine va_iald hx hb hK.1 hP 1 0 rfl rfl (show ¬ (_ ∨ _) by decide) dX11_pairs_5 ?_
  refine lv_topi (fun v1 ev1 => ?_)
  obtain rfl : v1 = 0 := ev1.trans rfl
  refine lv_if_ne (tgt := 12) hx hb dX11_pairs_6 (by decide) (fun c2 => False.elim (by revert c2; decide)) (fun c3 => ?_)
  refine lv_bipush (v := (-2)) hx hb dX11_pairs_9 (by decide) ?_
  exact retPi hx hb hr hlk hS dX11_pairs_11 (rfl)

set_option maxRecDepth 100000 in
set_option maxHeartbeats 4000000 in
theorem pX11_which (l : Launch) (G : va_G) (cs : Nat → ClassId) (h : Nat) (q : Nat → Nat) (a1 : Int32) : PureI l yX11_which cX11_which 2 (some .int) 2 G (TY cs) [.ref h, .int a1] [(mc0 cs h q), (mc1 cs h q)] (-2) := by
  refine mkP (Qc := QPi (-2)) (by decide) (by simp [lg_sl, Value.category]) ?_
  intro p e s m args below meth c ls hx hb hml hr hlk hown ht hK hP hS hl
  have hl : lv_has ls 2 [(0, .ref h), (1, .int a1)] := hl
  refine lv_aload_n hx hb dX11_which_0 rfl (lv_at hl 0 rfl) ?_
  refine lv_iload_n hx hb dX11_which_1 rfl (lv_at hl 1 rfl) ?_
  refine behI (runVP (As := [.int a1]) (rest := []) ⟨hx, hb, hml, hown, ht⟩ (pX11_areMen l G cs h q a1) okV_RX11_375 ⟨by decide, by decide⟩ hK hP [0, 1] rfl 0 rfl rfl hl.1 rfl (Nat.le_of_ble_eq_true rfl) dX11_which_2 ⟨by decide, by decide⟩) hP hS (fun _ h => h) (fun H locs hP hS => ?_)
  refine lv_if_ne (tgt := 11) hx hb dX11_which_5 (by decide) (fun c1 => False.elim (by revert c1; decide)) (fun c2 => ?_)
  refine lv_bipush (v := (-2)) hx hb dX11_which_8 (by decide) ?_
  exact retPi hx hb hr hlk hS dX11_which_10 (rfl)

set_option maxRecDepth 100000 in
set_option maxHeartbeats 4000000 in
theorem pX11_question (l : Launch) (G : va_G) (cs : Nat → ClassId) (h : Nat) (q : Nat → Nat) (a1 : Int32) : PureI l yX11_question cX11_question 3 (some .int) 2 G (TY cs) [.ref h, .int a1] [(mc0 cs h q), (mc1 cs h q)] (-2) := by
  refine mkP (Qc := QPi (-2)) (by decide) (by simp [lg_sl, Value.category]) ?_
  intro p e s m args below meth c ls hx hb hml hr hlk hown ht hK hP hS hl
  have hl : lv_has ls 3 [(0, .ref h), (1, .int a1)] := hl
  refine lv_aload_n hx hb dX11_question_0 rfl (lv_at hl 0 rfl) ?_
  refine lv_iload_n hx hb dX11_question_1 rfl (lv_at hl 1 rfl) ?_
  refine behI (runVP (As := [.int a1]) (rest := []) ⟨hx, hb, hml, hown, ht⟩ (pX11_areMen l G cs h q a1) okV_RX11_375 ⟨by decide, by decide⟩ hK hP [0, 1] rfl 0 rfl rfl hl.1 rfl (Nat.le_of_ble_eq_true rfl) dX11_question_2 ⟨by decide, by decide⟩) hP hS (fun _ h => h) (fun H locs hP hS => ?_)
  refine lv_if_ne (tgt := 11) hx hb dX11_question_5 (by decide) (fun c1 => False.elim (by revert c1; decide)) (fun c2 => ?_)
  refine lv_bipush (v := (-2)) hx hb dX11_question_8 (by decide) ?_
  exact retPi hx hb hr hlk hS dX11_question_10 (rfl)

set_option maxRecDepth 100000 in
set_option maxHeartbeats 4000000 in
theorem pX11_yes (l : Launch) (G : va_G) (cs : Nat → ClassId) (h : Nat) (q : Nat → Nat) (a1 : Int32) (a2 : Int32) : PureI l yX11_yes cX11_yes 3 (some .int) 2 G (TY cs) [.ref h, .int a1, .int a2] [(mc0 cs h q), (mc1 cs h q)] (-2) := by
  refine mkP (Qc := QPi (-2)) (by decide) (by simp [lg_sl, Value.category]) ?_
  intro p e s m args below meth c ls hx hb hml hr hlk hown ht hK hP hS hl
  have hl : lv_has ls 3 [(0, .ref h), (1, .int a1), (2, .int a2)] := hl
  refine lv_aload_n hx hb dX11_yes_0 rfl (lv_at hl 0 rfl) ?_
  refine lv_iload_n hx hb dX11_yes_1 rfl (lv_at hl 1 rfl) ?_
  refine behI (runVP (As := [.int a1]) (rest := []) ⟨hx, hb, hml, hown, ht⟩ (pX11_areMen l G cs h q a1) okV_RX11_375 ⟨by decide, by decide⟩ hK hP [0, 1] rfl 0 rfl rfl hl.1 rfl (Nat.le_of_ble_eq_true rfl) dX11_yes_2 ⟨by decide, by decide⟩) hP hS (fun _ h => h) (fun H locs hP hS => ?_)
  refine lv_if_eq (tgt := 29) hx hb dX11_yes_5 (by decide) (fun c2 => ?_) (fun c1 => False.elim (by revert c1; decide))
  refine lv_bipush (v := (-2)) hx hb dX11_yes_29 (by decide) ?_
  exact retPi hx hb hr hlk hS dX11_yes_31 (rfl)

set_option maxRecDepth 100000 in
set_option maxHeartbeats 4000000 in
theorem pX11_list (l : Launch) (G : va_G) (cs : Nat → ClassId) (h : Nat) (q : Nat → Nat) (a1 : Int32) : PureI l yX11_list cX11_list 4 (some .int) 2 G (TY cs) [.ref h, .int a1] [(mc0 cs h q), (mc1 cs h q)] (-2) := by
  refine mkP (Qc := QPi (-2)) (by decide) (by simp [lg_sl, Value.category]) ?_
  intro p e s m args below meth c ls hx hb hml hr hlk hown ht hK hP hS hl
  have hl : lv_has ls 4 [(0, .ref h), (1, .int a1)] := hl
  refine lv_aload_n hx hb dX11_list_0 rfl (lv_at hl 0 rfl) ?_
  refine lv_iload_n hx hb dX11_list_1 rfl (lv_at hl 1 rfl) ?_
  refine behI (runVP (As := [.int a1]) (rest := []) ⟨hx, hb, hml, hown, ht⟩ (pX11_areMen l G cs h q a1) okV_RX11_375 ⟨by decide, by decide⟩ hK hP [0, 1] rfl 0 rfl rfl hl.1 rfl (Nat.le_of_ble_eq_true rfl) dX11_list_2 ⟨by decide, by decide⟩) hP hS (fun _ h => h) (fun H locs hP hS => ?_)
  refine lv_if_ne (tgt := 11) hx hb dX11_list_5 (by decide) (fun c1 => False.elim (by revert c1; decide)) (fun c2 => ?_)
  refine lv_bipush (v := (-2)) hx hb dX11_list_8 (by decide) ?_
  exact retPi hx hb hr hlk hS dX11_list_10 (rfl)

set_option maxRecDepth 100000 in
set_option maxHeartbeats 4000000 in
theorem pX11_meant (l : Launch) (G : va_G) (cs : Nat → ClassId) (h : Nat) (q : Nat → Nat) (a1 : Int32) (a2 : Int32) (a3 : Int32) : PureI l yX11_meant cX11_meant 6 (some .int) 2 G (TY cs) [.ref h, .int a1, .int a2, .int a3] [(mc0 cs h q), (mc1 cs h q)] (-2) := by
  refine mkP (Qc := QPi (-2)) (by decide) (by simp [lg_sl, Value.category]) ?_
  intro p e s m args below meth c ls hx hb hml hr hlk hown ht hK hP hS hl
  have hl : lv_has ls 6 [(0, .ref h), (1, .int a1), (2, .int a2), (3, .int a3)] := hl
  refine lv_aload_n hx hb dX11_meant_0 rfl (lv_at hl 0 rfl) ?_
  refine lv_iload_n hx hb dX11_meant_1 rfl (lv_at hl 1 rfl) ?_
  refine behI (runVP (As := [.int a1]) (rest := []) ⟨hx, hb, hml, hown, ht⟩ (pX11_areMen l G cs h q a1) okV_RX11_375 ⟨by decide, by decide⟩ hK hP [0, 1] rfl 0 rfl rfl hl.1 rfl (Nat.le_of_ble_eq_true rfl) dX11_meant_2 ⟨by decide, by decide⟩) hP hS (fun _ h => h) (fun H locs hP hS => ?_)
  refine lv_if_eq (tgt := 26) hx hb dX11_meant_5 (by decide) (fun c2 => ?_) (fun c1 => False.elim (by revert c1; decide))
  refine lv_bipush (v := (-2)) hx hb dX11_meant_26 (by decide) ?_
  exact retPi hx hb hr hlk hS dX11_meant_28 (rfl)

set_option maxRecDepth 100000 in
set_option maxHeartbeats 4000000 in
theorem pX11_read (l : Launch) (G : va_G) (cs : Nat → ClassId) (h : Nat) (q : Nat → Nat) (a1 : Int32) (a2 : Int32) (a3 : Int32) : PureL l yX11_read cX11_read 4 (some .long) 2 G (TY cs) [.ref h, .int a1, .int a2, .int a3] [(mc0 cs h q), (mc1 cs h q)] (-2) := by
  refine mkP (Qc := QPl (-2)) (by decide) (by simp [lg_sl, Value.category]) ?_
  intro p e s m args below meth c ls hx hb hml hr hlk hown ht hK hP hS hl
  have hl : lv_has ls 4 [(0, .ref h), (1, .int a1), (2, .int a2), (3, .int a3)] := hl
  refine lv_aload_n hx hb dX11_read_0 rfl (lv_at hl 0 rfl) ?_
  refine lv_iload_n hx hb dX11_read_1 rfl (lv_at hl 1 rfl) ?_
  refine behI (runVP (As := [.int a1]) (rest := []) ⟨hx, hb, hml, hown, ht⟩ (pX11_isMan l G cs h q a1) okV_RX11_230 ⟨by decide, by decide⟩ hK hP [0, 1] rfl 0 rfl rfl hl.1 rfl (Nat.le_of_ble_eq_true rfl) dX11_read_2 ⟨by decide, by decide⟩) hP hS (fun _ h => h) (fun H locs hP hS => ?_)
  refine lv_if_eq (tgt := 26) hx hb dX11_read_5 (by decide) (fun c2 => ?_) (fun c1 => False.elim (by revert c1; decide))
  refine lv_ldc2 hx hb hown (ht _ kl_RX11_401) dX11_read_26 ?_
  exact retPl hx hb hr hlk hS dX11_read_29 (rfl)

set_option maxRecDepth 100000 in
set_option maxHeartbeats 4000000 in
theorem pX11_guess (l : Launch) (G : va_G) (cs : Nat → ClassId) (h : Nat) (q : Nat → Nat) (a1 : Int32) : PureI l yX11_guess cX11_guess 4 (some .int) 2 G (TY cs) [.ref h, .int a1] [(mc0 cs h q), (mc1 cs h q)] (-2) := by
  refine mkP (Qc := QPi (-2)) (by decide) (by simp [lg_sl, Value.category]) ?_
  intro p e s m args below meth c ls hx hb hml hr hlk hown ht hK hP hS hl
  have hl : lv_has ls 4 [(0, .ref h), (1, .int a1)] := hl
  refine lv_aload_n hx hb dX11_guess_0 rfl (lv_at hl 0 rfl) ?_
  refine lv_iload_n hx hb dX11_guess_1 rfl (lv_at hl 1 rfl) ?_
  refine behI (runVP (As := [.int a1]) (rest := []) ⟨hx, hb, hml, hown, ht⟩ (pX11_isMan l G cs h q a1) okV_RX11_230 ⟨by decide, by decide⟩ hK hP [0, 1] rfl 0 rfl rfl hl.1 rfl (Nat.le_of_ble_eq_true rfl) dX11_guess_2 ⟨by decide, by decide⟩) hP hS (fun _ h => h) (fun H locs hP hS => ?_)
  refine lv_if_ne (tgt := 11) hx hb dX11_guess_5 (by decide) (fun c1 => False.elim (by revert c1; decide)) (fun c2 => ?_)
  refine lv_bipush (v := (-2)) hx hb dX11_guess_8 (by decide) ?_
  exact retPi hx hb hr hlk hS dX11_guess_10 (rfl)

set_option maxRecDepth 100000 in
set_option maxHeartbeats 4000000 in
theorem pX11_right (l : Launch) (G : va_G) (cs : Nat → ClassId) (h : Nat) (q : Nat → Nat) (a1 : Int32) : PureL l yX11_right cX11_right 8 (some .long) 0 G (TY cs) [.ref h, .int a1] [(mc0 cs h q), (mc1 cs h q)] (-2) := by
  refine mkP (Qc := QPl (-2)) (by decide) (by simp [lg_sl, Value.category]) ?_
  intro p e s m args below meth c ls hx hb hml hr hlk hown ht hK hP hS hl
  have hl : lv_has ls 8 [(0, .ref h), (1, .int a1)] := hl
  refine lv_aload_n hx hb dX11_right_0 rfl (lv_at hl 0 rfl) ?_
  refine getF hx hb ht hown hK hP iTX11 0 1 rfl rfl (by decide) fl_RX11_9 rfl dX11_right_1 ?_
  refine lv_iconst (v := 5) hx hb dX11_right_4 (by decide) ?_
  refine va_iald hx hb hK.1 hP 1 0 rfl rfl (show ¬ (_ ∨ _) by decide) dX11_right_5 ?_
  refine lv_topi (fun v1 ev1 => ?_)
  obtain rfl : v1 = 0 := ev1.trans rfl
  refine lv_if_eq (tgt := 19) hx hb dX11_right_6 (by decide) (fun c3 => ?_) (fun c2 => False.elim (by revert c2; decide))
  refine lv_ldc2 hx hb hown (ht _ kl_RX11_401) dX11_right_19 ?_
  exact retPl hx hb hr hlk hS dX11_right_22 (rfl)

set_option maxRecDepth 100000 in
set_option maxHeartbeats 4000000 in
theorem pX11_habit (l : Launch) (G : va_G) (cs : Nat → ClassId) (h : Nat) (q : Nat → Nat) (a1 : Int32) : PureI l yX11_habit cX11_habit 3 (some .int) 3 G (TY cs) [.ref h, .int a1] [(mc0 cs h q), (mc1 cs h q)] (-2) := by
  refine mkP (Qc := QPi (-2)) (by decide) (by simp [lg_sl, Value.category]) ?_
  intro p e s m args below meth c ls hx hb hml hr hlk hown ht hK hP hS hl
  have hl : lv_has ls 3 [(0, .ref h), (1, .int a1)] := hl
  refine lv_aload_n hx hb dX11_habit_0 rfl (lv_at hl 0 rfl) ?_
  refine lv_iload_n hx hb dX11_habit_1 rfl (lv_at hl 1 rfl) ?_
  refine lv_iconst (v := 1) hx hb dX11_habit_2 (by decide) ?_
  refine behI (runVP (As := [.int a1, .int 1]) (rest := []) ⟨hx, hb, hml, hown, ht⟩ (pX11_asksHabit l G cs h q a1 1) okV_RX11_406 ⟨by decide, by decide⟩ hK hP [0, 1] rfl 0 rfl rfl hl.1 rfl (Nat.le_of_ble_eq_true rfl) dX11_habit_3 ⟨by decide, by decide⟩) hP hS (fun _ h => h) (fun H locs hP hS => ?_)
  refine lv_istore_n (lv' := [(2, .int (-2)), (0, .ref h), (1, .int a1)]) hx hb dX11_habit_6 rfl hl (by decide) rfl (fun ls hl => ?_)
  refine lv_iload_n hx hb dX11_habit_7 rfl (lv_at hl 0 rfl) ?_
  refine lv_if_ge (tgt := 15) hx hb dX11_habit_8 (by decide) (fun c1 => False.elim (by revert c1; decide)) (fun c2 => ?_)
  refine lv_iload_n hx hb dX11_habit_11 rfl (lv_at hl 0 rfl) ?_
  refine lv_goto (tgt := 21) hx hb dX11_habit_12 (by decide) ?_
  exact retPi hx hb hr hlk hS dX11_habit_21 (rfl)

set_option maxRecDepth 100000 in
set_option maxHeartbeats 4000000 in
theorem pX11_follows (l : Launch) (G : va_G) (cs : Nat → ClassId) (h : Nat) (q : Nat → Nat) (a1 : Int32) (a2 : Int32) : PureI l yX11_follows cX11_follows 4 (some .int) 3 G (TY cs) [.ref h, .int a1, .int a2] [(mc0 cs h q), (mc1 cs h q)] (-2) := by
  refine mkP (Qc := QPi (-2)) (by decide) (by simp [lg_sl, Value.category]) ?_
  intro p e s m args below meth c ls hx hb hml hr hlk hown ht hK hP hS hl
  have hl : lv_has ls 4 [(0, .ref h), (1, .int a1), (2, .int a2)] := hl
  refine lv_aload_n hx hb dX11_follows_0 rfl (lv_at hl 0 rfl) ?_
  refine lv_iload_n hx hb dX11_follows_1 rfl (lv_at hl 1 rfl) ?_
  refine lv_aload_n hx hb dX11_follows_2 rfl (lv_at hl 0 rfl) ?_
  refine lv_iload_n hx hb dX11_follows_3 rfl (lv_at hl 2 rfl) ?_
  refine lv_i2l hx hb dX11_follows_4 rfl ?_
  refine behI (runVP (As := [.long a2.toInt64]) (rest := [.int a1, .ref h]) ⟨hx, hb, hml, hown, ht⟩ (pX11_isRoom l G cs h q a2.toInt64) okV_RX11_89 ⟨by decide, by decide⟩ hK hP [0, 1] rfl 0 rfl rfl hl.1 rfl (Nat.le_of_ble_eq_true rfl) dX11_follows_5 ⟨by decide, by decide⟩) hP hS (fun _ h => h) (fun H locs hP hS => ?_)
  refine behI (runVP (As := [.int a1, .int 0]) (rest := []) ⟨hx, hb, hml, hown, ht⟩ (pX11_asksHabit l G cs h q a1 0) okV_RX11_406 ⟨by decide, by decide⟩ hK hP [0, 1] rfl 0 rfl rfl hl.1 rfl (Nat.le_of_ble_eq_true rfl) dX11_follows_8 ⟨by decide, by decide⟩) hP hS (fun _ h => h) (fun H locs hP hS => ?_)
  refine lv_istore_n (lv' := [(3, .int (-2)), (0, .ref h), (1, .int a1), (2, .int a2)]) hx hb dX11_follows_11 rfl hl (by decide) rfl (fun ls hl => ?_)
  refine lv_iload_n hx hb dX11_follows_12 rfl (lv_at hl 0 rfl) ?_
  refine lv_if_ge (tgt := 20) hx hb dX11_follows_13 (by decide) (fun c1 => False.elim (by revert c1; decide)) (fun c2 => ?_)
  refine lv_iload_n hx hb dX11_follows_16 rfl (lv_at hl 0 rfl) ?_
  refine lv_goto (tgt := 26) hx hb dX11_follows_17 (by decide) ?_
  exact retPi hx hb hr hlk hS dX11_follows_26 (rfl)

set_option maxRecDepth 100000 in
set_option maxHeartbeats 4000000 in
theorem pX11_period (l : Launch) (G : va_G) (cs : Nat → ClassId) (h : Nat) (q : Nat → Nat) (a1 : Int32) : PureI l yX11_period cX11_period 6 (some .int) 3 G (TY cs) [.ref h, .int a1] [(mc0 cs h q), (mc1 cs h q)] (-2) := by
  refine mkP (Qc := QPi (-2)) (by decide) (by simp [lg_sl, Value.category]) ?_
  intro p e s m args below meth c ls hx hb hml hr hlk hown ht hK hP hS hl
  have hl : lv_has ls 6 [(0, .ref h), (1, .int a1)] := hl
  refine lv_aload_n hx hb dX11_period_0 rfl (lv_at hl 0 rfl) ?_
  refine lv_iload_n hx hb dX11_period_1 rfl (lv_at hl 1 rfl) ?_
  refine lv_iconst (v := 1) hx hb dX11_period_2 (by decide) ?_
  refine behI (runVP (As := [.int a1, .int 1]) (rest := []) ⟨hx, hb, hml, hown, ht⟩ (pX11_asksHabit l G cs h q a1 1) okV_RX11_406 ⟨by decide, by decide⟩ hK hP [0, 1] rfl 0 rfl rfl hl.1 rfl (Nat.le_of_ble_eq_true rfl) dX11_period_3 ⟨by decide, by decide⟩) hP hS (fun _ h => h) (fun H locs hP hS => ?_)
  refine lv_istore_n (lv' := [(2, .int (-2)), (0, .ref h), (1, .int a1)]) hx hb dX11_period_6 rfl hl (by decide) rfl (fun ls hl => ?_)
  refine lv_iload_n hx hb dX11_period_7 rfl (lv_at hl 0 rfl) ?_
  refine lv_if_ge (tgt := 13) hx hb dX11_period_8 (by decide) (fun c1 => False.elim (by revert c1; decide)) (fun c2 => ?_)
  refine lv_iload_n hx hb dX11_period_11 rfl (lv_at hl 0 rfl) ?_
  exact retPi hx hb hr hlk hS dX11_period_12 (rfl)

set_option maxRecDepth 100000 in
set_option maxHeartbeats 4000000 in
theorem pX11_drawn (l : Launch) (G : va_G) (cs : Nat → ClassId) (h : Nat) (q : Nat → Nat) (a1 : Int32) (a2 : Int32) (a3 : Int32) : PureI l yX11_drawn cX11_drawn 5 (some .int) 3 G (TY cs) [.ref h, .int a1, .int a2, .int a3] [(mc0 cs h q), (mc1 cs h q)] (-2) := by
  refine mkP (Qc := QPi (-2)) (by decide) (by simp [lg_sl, Value.category]) ?_
  intro p e s m args below meth c ls hx hb hml hr hlk hown ht hK hP hS hl
  have hl : lv_has ls 5 [(0, .ref h), (1, .int a1), (2, .int a2), (3, .int a3)] := hl
  refine lv_aload_n hx hb dX11_drawn_0 rfl (lv_at hl 0 rfl) ?_
  refine lv_iload_n hx hb dX11_drawn_1 rfl (lv_at hl 2 rfl) ?_
  refine lv_iload_n hx hb dX11_drawn_2 rfl (lv_at hl 1 rfl) ?_
  refine behI (runSP (As := [.int a1]) (rest := [.int a2, .ref h]) ⟨hx, hb, hml, hown, ht⟩ (pX11_isSeed l G cs h q a1) okS_RX11_441 ⟨by decide, by decide⟩ hK hP [] rfl hl.1 rfl (Nat.le_of_ble_eq_true rfl) dX11_drawn_3 ⟨by decide, by decide⟩) hP hS (fun _ h => h) (fun H locs hP hS => ?_)
  refine lv_if_eq (tgt := 23) hx hb dX11_drawn_6 (by decide) (fun c1 => ?_) (fun c1 => ?_)
  · refine lv_iconst (v := 0) hx hb dX11_drawn_23 (by decide) ?_
    refine behI (runVP (As := [.int a2, .int 0]) (rest := []) ⟨hx, hb, hml, hown, ht⟩ (pX11_asksRound l G cs h q a2 0) okV_RX11_303 ⟨by decide, by decide⟩ hK hP [0, 1] rfl 0 rfl rfl hl.1 rfl (Nat.le_of_ble_eq_true rfl) dX11_drawn_24 ⟨by decide, by decide⟩) hP hS (fun _ h => h) (fun H locs hP hS => ?_)
    refine lv_istore (lv' := [(4, .int (-2)), (0, .ref h), (1, .int a1), (2, .int a2), (3, .int a3)]) hx hb dX11_drawn_27 hl (by decide) rfl (fun ls hl => ?_)
    refine lv_iload hx hb dX11_drawn_29 (lv_at hl 0 rfl) ?_
    refine lv_if_ge (tgt := 37) hx hb dX11_drawn_31 (by decide) (fun c2 => False.elim (by revert c2; decide)) (fun c3 => ?_)
    refine lv_iload hx hb dX11_drawn_34 (lv_at hl 0 rfl) ?_
    exact retPi hx hb hr hlk hS dX11_drawn_36 (rfl)
  · refine lv_iload_n hx hb dX11_drawn_9 rfl (lv_at hl 3 rfl) ?_
    refine lv_i2l hx hb dX11_drawn_10 rfl ?_
    refine lv_lconst (v := 0) hx hb dX11_drawn_11 (by decide) ?_
    refine lv_lconst (v := 1) hx hb dX11_drawn_12 (by decide) ?_
    refine behI (runSP (As := [.long a3.toInt64, .long 0, .long 1]) (rest := [.int a2, .ref h]) ⟨hx, hb, hml, hown, ht⟩ (pX11_in l G cs h q a3.toInt64 0 1) okS_RX11_79 ⟨by decide, by decide⟩ hK hP [] rfl hl.1 rfl (Nat.le_of_ble_eq_true rfl) dX11_drawn_13 ⟨by decide, by decide⟩) hP hS (fun _ h => h) (fun H locs hP hS => ?_)
    refine lv_if_eq (tgt := 23) hx hb dX11_drawn_16 (by decide) (fun c4 => ?_) (fun c4 => ?_)
    · refine lv_iconst (v := 0) hx hb dX11_drawn_23 (by decide) ?_
      refine behI (runVP (As := [.int a2, .int 0]) (rest := []) ⟨hx, hb, hml, hown, ht⟩ (pX11_asksRound l G cs h q a2 0) okV_RX11_303 ⟨by decide, by decide⟩ hK hP [0, 1] rfl 0 rfl rfl hl.1 rfl (Nat.le_of_ble_eq_true rfl) dX11_drawn_24 ⟨by decide, by decide⟩) hP hS (fun _ h => h) (fun H locs hP hS => ?_)
      refine lv_istore (lv' := [(4, .int (-2)), (0, .ref h), (1, .int a1), (2, .int a2), (3, .int a3)]) hx hb dX11_drawn_27 hl (by decide) rfl (fun ls hl => ?_)
      refine lv_iload hx hb dX11_drawn_29 (lv_at hl 0 rfl) ?_
      refine lv_if_ge (tgt := 37) hx hb dX11_drawn_31 (by decide) (fun c5 => False.elim (by revert c5; decide)) (fun c6 => ?_)
      refine lv_iload hx hb dX11_drawn_34 (lv_at hl 0 rfl) ?_
      exact retPi hx hb hr hlk hS dX11_drawn_36 (rfl)
    · refine lv_iconst (v := 1) hx hb dX11_drawn_19 (by decide) ?_
      refine lv_goto (tgt := 24) hx hb dX11_drawn_20 (by decide) ?_
      refine behI (runVP (As := [.int a2, .int 1]) (rest := []) ⟨hx, hb, hml, hown, ht⟩ (pX11_asksRound l G cs h q a2 1) okV_RX11_303 ⟨by decide, by decide⟩ hK hP [0, 1] rfl 0 rfl rfl hl.1 rfl (Nat.le_of_ble_eq_true rfl) dX11_drawn_24 ⟨by decide, by decide⟩) hP hS (fun _ h => h) (fun H locs hP hS => ?_)
      refine lv_istore (lv' := [(4, .int (-2)), (0, .ref h), (1, .int a1), (2, .int a2), (3, .int a3)]) hx hb dX11_drawn_27 hl (by decide) rfl (fun ls hl => ?_)
      refine lv_iload hx hb dX11_drawn_29 (lv_at hl 0 rfl) ?_
      refine lv_if_ge (tgt := 37) hx hb dX11_drawn_31 (by decide) (fun c7 => False.elim (by revert c7; decide)) (fun c8 => ?_)
      refine lv_iload hx hb dX11_drawn_34 (lv_at hl 0 rfl) ?_
      exact retPi hx hb hr hlk hS dX11_drawn_36 (rfl)
end
section
set_option maxRecDepth 100000 in
set_option maxHeartbeats 4000000 in
theorem pX11_lot (l : Launch) (G : va_G) (cs : Nat → ClassId) (h : Nat) (q : Nat → Nat) (a1 : Int32) (a2 : Int32) (a3 : Int32) : PureI l yX11_lot cX11_lot 7 (some .int) 3 G (TY cs) [.ref h, .int a1, .int a2, .int a3] [(mc0 cs h q), (mc1 cs h q)] (-2) := by
  refine mkP (Qc := QPi (-2)) (by decide) (by simp [lg_sl, Value.category]) ?_
  intro p e s m args below meth c ls hx hb hml hr hlk hown ht hK hP hS hl
  have hl : lv_has ls 7 [(0, .ref h), (1, .int a1), (2, .int a2), (3, .int a3)] := hl
  refine lv_aload_n hx hb dX11_lot_0 rfl (lv_at hl 0 rfl) ?_
  refine lv_iload_n hx hb dX11_lot_1 rfl (lv_at hl 2 rfl) ?_
  refine lv_iload_n hx hb dX11_lot_2 rfl (lv_at hl 1 rfl) ?_
  refine behI (runSP (As := [.int a1]) (rest := [.int a2, .ref h]) ⟨hx, hb, hml, hown, ht⟩ (pX11_isSeed l G cs h q a1) okS_RX11_441 ⟨by decide, by decide⟩ hK hP [] rfl hl.1 rfl (Nat.le_of_ble_eq_true rfl) dX11_lot_3 ⟨by decide, by decide⟩) hP hS (fun _ h => h) (fun H locs hP hS => ?_)
  refine lv_if_eq (tgt := 25) hx hb dX11_lot_6 (by decide) (fun c1 => ?_) (fun c1 => ?_)
  · refine lv_iconst (v := 0) hx hb dX11_lot_25 (by decide) ?_
    refine behI (runVP (As := [.int a2, .int 0]) (rest := []) ⟨hx, hb, hml, hown, ht⟩ (pX11_asksRound l G cs h q a2 0) okV_RX11_303 ⟨by decide, by decide⟩ hK hP [0, 1] rfl 0 rfl rfl hl.1 rfl (Nat.le_of_ble_eq_true rfl) dX11_lot_26 ⟨by decide, by decide⟩) hP hS (fun _ h => h) (fun H locs hP hS => ?_)
    refine lv_istore (lv' := [(4, .int (-2)), (0, .ref h), (1, .int a1), (2, .int a2), (3, .int a3)]) hx hb dX11_lot_29 hl (by decide) rfl (fun ls hl => ?_)
    refine lv_iload hx hb dX11_lot_31 (lv_at hl 0 rfl) ?_
    refine lv_if_ge (tgt := 39) hx hb dX11_lot_33 (by decide) (fun c2 => False.elim (by revert c2; decide)) (fun c3 => ?_)
    refine lv_iload hx hb dX11_lot_36 (lv_at hl 0 rfl) ?_
    exact retPi hx hb hr hlk hS dX11_lot_38 (rfl)
  · refine lv_iload_n hx hb dX11_lot_9 rfl (lv_at hl 3 rfl) ?_
    refine lv_i2l hx hb dX11_lot_10 rfl ?_
    refine lv_lconst (v := 1) hx hb dX11_lot_11 (by decide) ?_
    refine lv_ldc2 hx hb hown (ht _ kl_RX11_448) dX11_lot_12 ?_
    refine behI (runSP (As := [.long a3.toInt64, .long 1, .long 20]) (rest := [.int a2, .ref h]) ⟨hx, hb, hml, hown, ht⟩ (pX11_in l G cs h q a3.toInt64 1 20) okS_RX11_79 ⟨by decide, by decide⟩ hK hP [] rfl hl.1 rfl (Nat.le_of_ble_eq_true rfl) dX11_lot_15 ⟨by decide, by decide⟩) hP hS (fun _ h => h) (fun H locs hP hS => ?_)
    refine lv_if_eq (tgt := 25) hx hb dX11_lot_18 (by decide) (fun c4 => ?_) (fun c4 => ?_)
    · refine lv_iconst (v := 0) hx hb dX11_lot_25 (by decide) ?_
      refine behI (runVP (As := [.int a2, .int 0]) (rest := []) ⟨hx, hb, hml, hown, ht⟩ (pX11_asksRound l G cs h q a2 0) okV_RX11_303 ⟨by decide, by decide⟩ hK hP [0, 1] rfl 0 rfl rfl hl.1 rfl (Nat.le_of_ble_eq_true rfl) dX11_lot_26 ⟨by decide, by decide⟩) hP hS (fun _ h => h) (fun H locs hP hS => ?_)
      refine lv_istore (lv' := [(4, .int (-2)), (0, .ref h), (1, .int a1), (2, .int a2), (3, .int a3)]) hx hb dX11_lot_29 hl (by decide) rfl (fun ls hl => ?_)
      refine lv_iload hx hb dX11_lot_31 (lv_at hl 0 rfl) ?_
      refine lv_if_ge (tgt := 39) hx hb dX11_lot_33 (by decide) (fun c5 => False.elim (by revert c5; decide)) (fun c6 => ?_)
      refine lv_iload hx hb dX11_lot_36 (lv_at hl 0 rfl) ?_
      exact retPi hx hb hr hlk hS dX11_lot_38 (rfl)
    · refine lv_iconst (v := 1) hx hb dX11_lot_21 (by decide) ?_
      refine lv_goto (tgt := 26) hx hb dX11_lot_22 (by decide) ?_
      refine behI (runVP (As := [.int a2, .int 1]) (rest := []) ⟨hx, hb, hml, hown, ht⟩ (pX11_asksRound l G cs h q a2 1) okV_RX11_303 ⟨by decide, by decide⟩ hK hP [0, 1] rfl 0 rfl rfl hl.1 rfl (Nat.le_of_ble_eq_true rfl) dX11_lot_26 ⟨by decide, by decide⟩) hP hS (fun _ h => h) (fun H locs hP hS => ?_)
      refine lv_istore (lv' := [(4, .int (-2)), (0, .ref h), (1, .int a1), (2, .int a2), (3, .int a3)]) hx hb dX11_lot_29 hl (by decide) rfl (fun ls hl => ?_)
      refine lv_iload hx hb dX11_lot_31 (lv_at hl 0 rfl) ?_
      refine lv_if_ge (tgt := 39) hx hb dX11_lot_33 (by decide) (fun c7 => False.elim (by revert c7; decide)) (fun c8 => ?_)
      refine lv_iload hx hb dX11_lot_36 (lv_at hl 0 rfl) ?_
      exact retPi hx hb hr hlk hS dX11_lot_38 (rfl)

set_option maxRecDepth 100000 in
set_option maxHeartbeats 4000000 in
theorem pX11_tell (l : Launch) (G : va_G) (cs : Nat → ClassId) (h : Nat) (q : Nat → Nat) (a1 : Int32) (a2 : Int32) (a3 : Int32) : PureI l yX11_tell cX11_tell 5 (some .int) 2 G (TY cs) [.ref h, .int a1, .int a2, .int a3] [(mc0 cs h q), (mc1 cs h q)] (-2) := by
  refine mkP (Qc := QPi (-2)) (by decide) (by simp [lg_sl, Value.category]) ?_
  intro p e s m args below meth c ls hx hb hml hr hlk hown ht hK hP hS hl
  have hl : lv_has ls 5 [(0, .ref h), (1, .int a1), (2, .int a2), (3, .int a3)] := hl
  refine lv_aload_n hx hb dX11_tell_0 rfl (lv_at hl 0 rfl) ?_
  refine lv_iload_n hx hb dX11_tell_1 rfl (lv_at hl 1 rfl) ?_
  refine lv_i2l hx hb dX11_tell_2 rfl ?_
  refine behI (runVP (As := [.long a1.toInt64]) (rest := []) ⟨hx, hb, hml, hown, ht⟩ (pX11_isRoom l G cs h q a1.toInt64) okV_RX11_89 ⟨by decide, by decide⟩ hK hP [0, 1] rfl 0 rfl rfl hl.1 rfl (Nat.le_of_ble_eq_true rfl) dX11_tell_3 ⟨by decide, by decide⟩) hP hS (fun _ h => h) (fun H locs hP hS => ?_)
  refine lv_if_eq (tgt := 54) hx hb dX11_tell_6 (by decide) (fun c2 => ?_) (fun c1 => False.elim (by revert c1; decide))
  refine lv_bipush (v := (-2)) hx hb dX11_tell_54 (by decide) ?_
  exact retPi hx hb hr hlk hS dX11_tell_56 (rfl)

set_option maxRecDepth 100000 in
set_option maxHeartbeats 4000000 in
theorem pX11_shut (l : Launch) (G : va_G) (cs : Nat → ClassId) (h : Nat) (q : Nat → Nat) (a1 : Int32) (a2 : Int32) (a3 : Int32) : PureI l yX11_shut cX11_shut 5 (some .int) 2 G (TY cs) [.ref h, .int a1, .int a2, .int a3] [(mc0 cs h q), (mc1 cs h q)] (-2) := by
  refine mkP (Qc := QPi (-2)) (by decide) (by simp [lg_sl, Value.category]) ?_
  intro p e s m args below meth c ls hx hb hml hr hlk hown ht hK hP hS hl
  have hl : lv_has ls 5 [(0, .ref h), (1, .int a1), (2, .int a2), (3, .int a3)] := hl
  refine lv_aload_n hx hb dX11_shut_0 rfl (lv_at hl 0 rfl) ?_
  refine lv_iload_n hx hb dX11_shut_1 rfl (lv_at hl 1 rfl) ?_
  refine lv_i2l hx hb dX11_shut_2 rfl ?_
  refine behI (runVP (As := [.long a1.toInt64]) (rest := []) ⟨hx, hb, hml, hown, ht⟩ (pX11_isRoom l G cs h q a1.toInt64) okV_RX11_89 ⟨by decide, by decide⟩ hK hP [0, 1] rfl 0 rfl rfl hl.1 rfl (Nat.le_of_ble_eq_true rfl) dX11_shut_3 ⟨by decide, by decide⟩) hP hS (fun _ h => h) (fun H locs hP hS => ?_)
  refine lv_if_eq (tgt := 33) hx hb dX11_shut_6 (by decide) (fun c2 => ?_) (fun c1 => False.elim (by revert c1; decide))
  refine lv_bipush (v := (-2)) hx hb dX11_shut_33 (by decide) ?_
  exact retPi hx hb hr hlk hS dX11_shut_35 (rfl)

set_option maxRecDepth 100000 in
set_option maxHeartbeats 4000000 in
theorem pX11_gain (l : Launch) (G : va_G) (cs : Nat → ClassId) (h : Nat) (q : Nat → Nat) (a1 : Int32) : PureI l yX11_gain cX11_gain 3 (some .int) 3 G (TY cs) [.ref h, .int a1] [(mc0 cs h q), (mc1 cs h q)] (-2000000) := by
  refine mkP (Qc := QPi (-2000000)) (by decide) (by simp [lg_sl, Value.category]) ?_
  intro p e s m args below meth c ls hx hb hml hr hlk hown ht hK hP hS hl
  have hl : lv_has ls 3 [(0, .ref h), (1, .int a1)] := hl
  refine lv_aload_n hx hb dX11_gain_0 rfl (lv_at hl 0 rfl) ?_
  refine lv_iload_n hx hb dX11_gain_1 rfl (lv_at hl 1 rfl) ?_
  refine lv_iconst (v := 1) hx hb dX11_gain_2 (by decide) ?_
  refine behI (runVP (As := [.int a1, .int 1]) (rest := []) ⟨hx, hb, hml, hown, ht⟩ (pX11_asksRound l G cs h q a1 1) okV_RX11_303 ⟨by decide, by decide⟩ hK hP [0, 1] rfl 0 rfl rfl hl.1 rfl (Nat.le_of_ble_eq_true rfl) dX11_gain_3 ⟨by decide, by decide⟩) hP hS (fun _ h => h) (fun H locs hP hS => ?_)
  refine lv_istore_n (lv' := [(2, .int (-2)), (0, .ref h), (1, .int a1)]) hx hb dX11_gain_6 rfl hl (by decide) rfl (fun ls hl => ?_)
  refine lv_iload_n hx hb dX11_gain_7 rfl (lv_at hl 0 rfl) ?_
  refine lv_bipush (v := (-2)) hx hb dX11_gain_8 (by decide) ?_
  refine lv_icmp_ne (tgt := 19) hx hb dX11_gain_10 (by decide) (fun c1 => False.elim (by revert c1; decide)) (fun c2 => ?_)
  refine lv_ldcw hx hb hown (ht _ ki_RX11_307) dX11_gain_13 ?_
  refine lv_goto (tgt := 43) hx hb dX11_gain_16 (by decide) ?_
  exact retPi hx hb hr hlk hS dX11_gain_43 (rfl)

set_option maxRecDepth 100000 in
set_option maxHeartbeats 4000000 in
theorem pX11_count (l : Launch) (G : va_G) (cs : Nat → ClassId) (h : Nat) (q : Nat → Nat) (a1 : Int32) : PureI l yX11_count cX11_count 4 (some .int) 0 G (TY cs) [.ref h, .int a1] [(mc0 cs h q), (mc1 cs h q), (mc31 cs h q)] (spk 8 a1 0 (-1)) := by
  rcases cs8 a1 with hn0 | hb0 | rfl | rfl | rfl | rfl | rfl | rfl | rfl | rfl
  · refine mkP (Qc := QPi (spk 8 a1 0 (-1))) (by decide) (by simp [lg_sl, Value.category]) ?_
    intro p e s m args below meth c ls hx hb hml hr hlk hown ht hK hP hS hl
    have hl : lv_has ls 4 [(0, .ref h), (1, .int a1)] := hl
    refine lv_iconst (v := 0) hx hb dX11_count_0 (by decide) ?_
    refine lv_istore_n (lv' := [(2, .int 0), (0, .ref h), (1, .int a1)]) hx hb dX11_count_1 rfl hl (by decide) rfl (fun ls hl => ?_)
    refine lv_iload_n hx hb dX11_count_2 rfl (lv_at hl 2 rfl) ?_
    refine lv_tableOut (tgt := 179) hx hb dX11_count_3 (by have z0 := ltT hn0; have k0 : (0 : Int32).toInt = 0 := (by decide); omega) (by decide) ?_
    refine lv_iconst (v := (-1)) hx hb dX11_count_179 (by decide) ?_
    exact retPi hx hb hr hlk hS dX11_count_180 ((spk_lo hn0).symm)
  · refine mkP (Qc := QPi (spk 8 a1 0 (-1))) (by decide) (by simp [lg_sl, Value.category]) ?_
    intro p e s m args below meth c ls hx hb hml hr hlk hown ht hK hP hS hl
    have hl : lv_has ls 4 [(0, .ref h), (1, .int a1)] := hl
    refine lv_iconst (v := 0) hx hb dX11_count_0 (by decide) ?_
    refine lv_istore_n (lv' := [(2, .int 0), (0, .ref h), (1, .int a1)]) hx hb dX11_count_1 rfl hl (by decide) rfl (fun ls hl => ?_)
    refine lv_iload_n hx hb dX11_count_2 rfl (lv_at hl 2 rfl) ?_
    refine lv_tableOut (tgt := 179) hx hb dX11_count_3 (by have z0 := leT hb0; have k0 : (8 : Int32).toInt = 8 := (by decide); omega) (by decide) ?_
    refine lv_iconst (v := (-1)) hx hb dX11_count_179 (by decide) ?_
    exact retPi hx hb hr hlk hS dX11_count_180 ((spk_hi (by decide) hb0).symm)
  · refine mkP (Qc := QPi (spk 8 0 0 (-1))) (by decide) (by simp [lg_sl, Value.category]) ?_
    intro p e s m args below meth c ls hx hb hml hr hlk hown ht hK hP hS hl
    have hl : lv_has ls 4 [(0, .ref h), (1, .int 0)] := hl
    refine lv_iconst (v := 0) hx hb dX11_count_0 (by decide) ?_
    refine lv_istore_n (lv' := [(2, .int 0), (0, .ref h), (1, .int 0)]) hx hb dX11_count_1 rfl hl (by decide) rfl (fun ls hl => ?_)
    refine lv_iload_n hx hb dX11_count_2 rfl (lv_at hl 2 rfl) ?_
    refine lv_tableIn (off := 45) (tgt := 48) hx hb dX11_count_3 (by decide) (by decide) (by decide) (by decide) ?_
    refine lv_aload_n hx hb dX11_count_48 rfl (lv_at hl 1 rfl) ?_
    refine getF hx hb ht hown hK hP iTX11 0 1 rfl rfl (by decide) fl_RX11_9 rfl dX11_count_49 ?_
    refine lv_iconst (v := 4) hx hb dX11_count_52 (by decide) ?_
    refine va_iald hx hb hK.1 hP 1 0 rfl rfl (show ¬ (_ ∨ _) by decide) dX11_count_53 ?_
    refine lv_topi (fun v1 ev1 => ?_)
    obtain rfl : v1 = 0 := ev1.trans rfl
    exact retPi hx hb hr hlk hS dX11_count_54 (by decide)
  · refine mkP (Qc := QPi (spk 8 1 0 (-1))) (by decide) (by simp [lg_sl, Value.category]) ?_
    intro p e s m args below meth c ls hx hb hml hr hlk hown ht hK hP hS hl
    have hl : lv_has ls 4 [(0, .ref h), (1, .int 1)] := hl
    refine lv_iconst (v := 0) hx hb dX11_count_0 (by decide) ?_
    refine lv_istore_n (lv' := [(2, .int 0), (0, .ref h), (1, .int 1)]) hx hb dX11_count_1 rfl hl (by decide) rfl (fun ls hl => ?_)
    refine lv_iload_n hx hb dX11_count_2 rfl (lv_at hl 2 rfl) ?_
    refine lv_tableIn (off := 52) (tgt := 55) hx hb dX11_count_3 (by decide) (by decide) (by decide) (by decide) ?_
    refine lv_iconst (v := 0) hx hb dX11_count_55 (by decide) ?_
    refine lv_istore_n (lv' := [(3, .int 0), (2, .int 0), (0, .ref h), (1, .int 1)]) hx hb dX11_count_56 rfl hl (by decide) rfl (fun ls hl => ?_)
    refine lv_iload_n hx hb dX11_count_57 rfl (lv_at hl 0 rfl) ?_
    refine lv_aload_n hx hb dX11_count_58 rfl (lv_at hl 2 rfl) ?_
    refine getF hx hb ht hown hK hP iTX11 0 1 rfl rfl (by decide) fl_RX11_9 rfl dX11_count_59 ?_
    refine lv_iconst (v := 4) hx hb dX11_count_62 (by decide) ?_
    refine va_iald hx hb hK.1 hP 1 0 rfl rfl (show ¬ (_ ∨ _) by decide) dX11_count_63 ?_
    refine lv_topi (fun v1 ev1 => ?_)
    obtain rfl : v1 = 0 := ev1.trans rfl
    refine lv_icmp_ge (tgt := 85) hx hb dX11_count_64 (by decide) (fun c3 => ?_) (fun c2 => False.elim (by revert c2; decide))
    refine lv_iload_n hx hb dX11_count_85 rfl (lv_at hl 1 rfl) ?_
    refine lv_iconst (v := 2) hx hb dX11_count_86 (by decide) ?_
    refine lv_idiv hx hb dX11_count_87 (by decide) ?_
    refine lv_topi (fun v4 ev4 => ?_)
    obtain rfl : v4 = 0 := ev4.trans (by decide)
    exact retPi hx hb hr hlk hS dX11_count_88 (by decide)
  · refine mkP (Qc := QPi (spk 8 2 0 (-1))) (by decide) (by simp [lg_sl, Value.category]) ?_
    intro p e s m args below meth c ls hx hb hml hr hlk hown ht hK hP hS hl
    have hl : lv_has ls 4 [(0, .ref h), (1, .int 2)] := hl
    refine lv_iconst (v := 0) hx hb dX11_count_0 (by decide) ?_
    refine lv_istore_n (lv' := [(2, .int 0), (0, .ref h), (1, .int 2)]) hx hb dX11_count_1 rfl hl (by decide) rfl (fun ls hl => ?_)
    refine lv_iload_n hx hb dX11_count_2 rfl (lv_at hl 2 rfl) ?_
    refine lv_tableIn (off := 86) (tgt := 89) hx hb dX11_count_3 (by decide) (by decide) (by decide) (by decide) ?_
    refine lv_aload_n hx hb dX11_count_89 rfl (lv_at hl 1 rfl) ?_
    refine getF hx hb ht hown hK hP iTX11 0 1 rfl rfl (by decide) fl_RX11_9 rfl dX11_count_90 ?_
    refine lv_iconst (v := 5) hx hb dX11_count_93 (by decide) ?_
    refine va_iald hx hb hK.1 hP 1 0 rfl rfl (show ¬ (_ ∨ _) by decide) dX11_count_94 ?_
    refine lv_topi (fun v1 ev1 => ?_)
    obtain rfl : v1 = 0 := ev1.trans rfl
    exact retPi hx hb hr hlk hS dX11_count_95 (by decide)
  · refine mkP (Qc := QPi (spk 8 3 0 (-1))) (by decide) (by simp [lg_sl, Value.category]) ?_
    intro p e s m args below meth c ls hx hb hml hr hlk hown ht hK hP hS hl
    have hl : lv_has ls 4 [(0, .ref h), (1, .int 3)] := hl
    refine lv_iconst (v := 0) hx hb dX11_count_0 (by decide) ?_
    refine lv_istore_n (lv' := [(2, .int 0), (0, .ref h), (1, .int 3)]) hx hb dX11_count_1 rfl hl (by decide) rfl (fun ls hl => ?_)
    refine lv_iload_n hx hb dX11_count_2 rfl (lv_at hl 2 rfl) ?_
    refine lv_tableIn (off := 93) (tgt := 96) hx hb dX11_count_3 (by decide) (by decide) (by decide) (by decide) ?_
    refine lv_iconst (v := 0) hx hb dX11_count_96 (by decide) ?_
    refine lv_istore_n (lv' := [(3, .int 0), (2, .int 0), (0, .ref h), (1, .int 3)]) hx hb dX11_count_97 rfl hl (by decide) rfl (fun ls hl => ?_)
    refine lv_iload_n hx hb dX11_count_98 rfl (lv_at hl 0 rfl) ?_
    refine lv_aload_n hx hb dX11_count_99 rfl (lv_at hl 2 rfl) ?_
    refine getF hx hb ht hown hK hP iTX11 0 1 rfl rfl (by decide) fl_RX11_9 rfl dX11_count_100 ?_
    refine lv_iconst (v := 4) hx hb dX11_count_103 (by decide) ?_
    refine va_iald hx hb hK.1 hP 1 0 rfl rfl (show ¬ (_ ∨ _) by decide) dX11_count_104 ?_
    refine lv_topi (fun v1 ev1 => ?_)
    obtain rfl : v1 = 0 := ev1.trans rfl
    refine lv_icmp_ge (tgt := 123) hx hb dX11_count_105 (by decide) (fun c3 => ?_) (fun c2 => False.elim (by revert c2; decide))
    refine lv_iload_n hx hb dX11_count_123 rfl (lv_at hl 1 rfl) ?_
    exact retPi hx hb hr hlk hS dX11_count_124 (by decide)
  · refine mkP (Qc := QPi (spk 8 4 0 (-1))) (by decide) (by simp [lg_sl, Value.category]) ?_
    intro p e s m args below meth c ls hx hb hml hr hlk hown ht hK hP hS hl
    have hl : lv_has ls 4 [(0, .ref h), (1, .int 4)] := hl
    refine lv_iconst (v := 0) hx hb dX11_count_0 (by decide) ?_
    refine lv_istore_n (lv' := [(2, .int 0), (0, .ref h), (1, .int 4)]) hx hb dX11_count_1 rfl hl (by decide) rfl (fun ls hl => ?_)
    refine lv_iload_n hx hb dX11_count_2 rfl (lv_at hl 2 rfl) ?_
    refine lv_tableIn (off := 122) (tgt := 125) hx hb dX11_count_3 (by decide) (by decide) (by decide) (by decide) ?_
    refine lv_aload_n hx hb dX11_count_125 rfl (lv_at hl 1 rfl) ?_
    refine getF hx hb ht hown hK hP iTX11 0 1 rfl rfl (by decide) fl_RX11_9 rfl dX11_count_126 ?_
    refine lv_bipush (v := 6) hx hb dX11_count_129 (by decide) ?_
    refine va_iald hx hb hK.1 hP 1 0 rfl rfl (show ¬ (_ ∨ _) by decide) dX11_count_131 ?_
    refine lv_topi (fun v1 ev1 => ?_)
    obtain rfl : v1 = 0 := ev1.trans rfl
    exact retPi hx hb hr hlk hS dX11_count_132 (by decide)
  · refine mkP (Qc := QPi (spk 8 5 0 (-1))) (by decide) (by simp [lg_sl, Value.category]) ?_
    intro p e s m args below meth c ls hx hb hml hr hlk hown ht hK hP hS hl
    have hl : lv_has ls 4 [(0, .ref h), (1, .int 5)] := hl
    refine lv_iconst (v := 0) hx hb dX11_count_0 (by decide) ?_
    refine lv_istore_n (lv' := [(2, .int 0), (0, .ref h), (1, .int 5)]) hx hb dX11_count_1 rfl hl (by decide) rfl (fun ls hl => ?_)
    refine lv_iload_n hx hb dX11_count_2 rfl (lv_at hl 2 rfl) ?_
    refine lv_tableIn (off := 130) (tgt := 133) hx hb dX11_count_3 (by decide) (by decide) (by decide) (by decide) ?_
    refine lv_aload_n hx hb dX11_count_133 rfl (lv_at hl 1 rfl) ?_
    refine getF hx hb ht hown hK hP iTX11 0 5 rfl rfl (by decide) fl_RX11_93 rfl dX11_count_134 ?_
    exact retPi hx hb hr hlk hS dX11_count_137 (by decide)
  · refine mkP (Qc := QPi (spk 8 6 0 (-1))) (by decide) (by simp [lg_sl, Value.category]) ?_
    intro p e s m args below meth c ls hx hb hml hr hlk hown ht hK hP hS hl
    have hl : lv_has ls 4 [(0, .ref h), (1, .int 6)] := hl
    refine lv_iconst (v := 0) hx hb dX11_count_0 (by decide) ?_
    refine lv_istore_n (lv' := [(2, .int 0), (0, .ref h), (1, .int 6)]) hx hb dX11_count_1 rfl hl (by decide) rfl (fun ls hl => ?_)
    refine lv_iload_n hx hb dX11_count_2 rfl (lv_at hl 2 rfl) ?_
    refine lv_tableIn (off := 135) (tgt := 138) hx hb dX11_count_3 (by decide) (by decide) (by decide) (by decide) ?_
    refine lv_aload_n hx hb dX11_count_138 rfl (lv_at hl 1 rfl) ?_
    refine getF hx hb ht hown hK hP iTX11 0 1 rfl rfl (by decide) fl_RX11_9 rfl dX11_count_139 ?_
    refine lv_bipush (v := 7) hx hb dX11_count_142 (by decide) ?_
    refine va_iald hx hb hK.1 hP 1 0 rfl rfl (show ¬ (_ ∨ _) by decide) dX11_count_144 ?_
    refine lv_topi (fun v1 ev1 => ?_)
    obtain rfl : v1 = 0 := ev1.trans rfl
    exact retPi hx hb hr hlk hS dX11_count_145 (by decide)
  · refine mkP (Qc := QPi (spk 8 7 0 (-1))) (by decide) (by simp [lg_sl, Value.category]) ?_
    intro p e s m args below meth c ls hx hb hml hr hlk hown ht hK hP hS hl
    have hl : lv_has ls 4 [(0, .ref h), (1, .int 7)] := hl
    refine lv_iconst (v := 0) hx hb dX11_count_0 (by decide) ?_
    refine lv_istore_n (lv' := [(2, .int 0), (0, .ref h), (1, .int 7)]) hx hb dX11_count_1 rfl hl (by decide) rfl (fun ls hl => ?_)
    refine lv_iload_n hx hb dX11_count_2 rfl (lv_at hl 2 rfl) ?_
    refine lv_tableIn (off := 143) (tgt := 146) hx hb dX11_count_3 (by decide) (by decide) (by decide) (by decide) ?_
    refine lv_iconst (v := 0) hx hb dX11_count_146 (by decide) ?_
    refine lv_istore_n (lv' := [(3, .int 0), (2, .int 0), (0, .ref h), (1, .int 7)]) hx hb dX11_count_147 rfl hl (by decide) rfl (fun ls hl => ?_)
    refine lv_iload_n hx hb dX11_count_148 rfl (lv_at hl 0 rfl) ?_
    refine lv_iconst (v := 4) hx hb dX11_count_149 (by decide) ?_
    refine lv_icmp_ge (tgt := 177) hx hb dX11_count_150 (by decide) (fun c1 => False.elim (by revert c1; decide)) (fun c2 => ?_)
    refine lv_iload_n hx hb dX11_count_153 rfl (lv_at hl 1 rfl) ?_
    refine lv_aload_n hx hb dX11_count_154 rfl (lv_at hl 2 rfl) ?_
    refine getF hx hb ht hown hK hP iTX11 0 31 rfl rfl (by decide) fl_RX11_61 rfl dX11_count_155 ?_
    refine lv_iload_n hx hb dX11_count_158 rfl (lv_at hl 0 rfl) ?_
    refine va_iald hx hb hK.1 hP 2 0 rfl rfl (show ¬ (_ ∨ _) by decide) dX11_count_159 ?_
    refine lv_topi (fun v3 ev3 => ?_)
    obtain rfl : v3 = (-1) := ev3.trans rfl
    refine lv_iconst (v := (-1)) hx hb dX11_count_160 (by decide) ?_
    refine lv_icmp_ne (tgt := 168) hx hb dX11_count_161 (by decide) (fun c4 => False.elim (by revert c4; decide)) (fun c5 => ?_)
    refine lv_iconst (v := 0) hx hb dX11_count_164 (by decide) ?_
    refine lv_goto (tgt := 169) hx hb dX11_count_165 (by decide) ?_
    refine lv_iadd hx hb dX11_count_169 ?_
    refine lv_topi (fun v6 ev6 => ?_)
    obtain rfl : v6 = 0 := ev6.trans (by decide)
    refine lv_istore_n (lv' := [(2, .int 0), (3, .int 0), (0, .ref h), (1, .int 7)]) hx hb dX11_count_170 rfl hl (by decide) rfl (fun ls hl => ?_)
    refine lv_iinc (v := 1) (lv' := [(3, .int 1), (2, .int 0), (0, .ref h), (1, .int 7)]) hx hb dX11_count_171 hl (k := 1) rfl (by decide) (by decide) rfl (fun ls hl => ?_)
    refine lv_goto (tgt := 148) hx hb dX11_count_174 (by decide) ?_
    refine lv_iload_n hx hb dX11_count_148 rfl (lv_at hl 0 rfl) ?_
    refine lv_iconst (v := 4) hx hb dX11_count_149 (by decide) ?_
    refine lv_icmp_ge (tgt := 177) hx hb dX11_count_150 (by decide) (fun c7 => False.elim (by revert c7; decide)) (fun c8 => ?_)
    refine lv_iload_n hx hb dX11_count_153 rfl (lv_at hl 1 rfl) ?_
    refine lv_aload_n hx hb dX11_count_154 rfl (lv_at hl 2 rfl) ?_
    refine getF hx hb ht hown hK hP iTX11 0 31 rfl rfl (by decide) fl_RX11_61 rfl dX11_count_155 ?_
    refine lv_iload_n hx hb dX11_count_158 rfl (lv_at hl 0 rfl) ?_
    refine va_iald hx hb hK.1 hP 2 0 rfl rfl (show ¬ (_ ∨ _) by decide) dX11_count_159 ?_
    refine lv_topi (fun v9 ev9 => ?_)
    obtain rfl : v9 = (-1) := ev9.trans rfl
    refine lv_iconst (v := (-1)) hx hb dX11_count_160 (by decide) ?_
    refine lv_icmp_ne (tgt := 168) hx hb dX11_count_161 (by decide) (fun c10 => False.elim (by revert c10; decide)) (fun c11 => ?_)
    refine lv_iconst (v := 0) hx hb dX11_count_164 (by decide) ?_
    refine lv_goto (tgt := 169) hx hb dX11_count_165 (by decide) ?_
    refine lv_iadd hx hb dX11_count_169 ?_
    refine lv_topi (fun v12 ev12 => ?_)
    obtain rfl : v12 = 0 := ev12.trans (by decide)
    refine lv_istore_n (lv' := [(2, .int 0), (3, .int 1), (0, .ref h), (1, .int 7)]) hx hb dX11_count_170 rfl hl (by decide) rfl (fun ls hl => ?_)
    refine lv_iinc (v := 2) (lv' := [(3, .int 2), (2, .int 0), (0, .ref h), (1, .int 7)]) hx hb dX11_count_171 hl (k := 1) rfl (by decide) (by decide) rfl (fun ls hl => ?_)
    refine lv_goto (tgt := 148) hx hb dX11_count_174 (by decide) ?_
    refine lv_iload_n hx hb dX11_count_148 rfl (lv_at hl 0 rfl) ?_
    refine lv_iconst (v := 4) hx hb dX11_count_149 (by decide) ?_
    refine lv_icmp_ge (tgt := 177) hx hb dX11_count_150 (by decide) (fun c13 => False.elim (by revert c13; decide)) (fun c14 => ?_)
    refine lv_iload_n hx hb dX11_count_153 rfl (lv_at hl 1 rfl) ?_
    refine lv_aload_n hx hb dX11_count_154 rfl (lv_at hl 2 rfl) ?_
    refine getF hx hb ht hown hK hP iTX11 0 31 rfl rfl (by decide) fl_RX11_61 rfl dX11_count_155 ?_
    refine lv_iload_n hx hb dX11_count_158 rfl (lv_at hl 0 rfl) ?_
    refine va_iald hx hb hK.1 hP 2 0 rfl rfl (show ¬ (_ ∨ _) by decide) dX11_count_159 ?_
    refine lv_topi (fun v15 ev15 => ?_)
    obtain rfl : v15 = (-1) := ev15.trans rfl
    refine lv_iconst (v := (-1)) hx hb dX11_count_160 (by decide) ?_
    refine lv_icmp_ne (tgt := 168) hx hb dX11_count_161 (by decide) (fun c16 => False.elim (by revert c16; decide)) (fun c17 => ?_)
    refine lv_iconst (v := 0) hx hb dX11_count_164 (by decide) ?_
    refine lv_goto (tgt := 169) hx hb dX11_count_165 (by decide) ?_
    refine lv_iadd hx hb dX11_count_169 ?_
    refine lv_topi (fun v18 ev18 => ?_)
    obtain rfl : v18 = 0 := ev18.trans (by decide)
    refine lv_istore_n (lv' := [(2, .int 0), (3, .int 2), (0, .ref h), (1, .int 7)]) hx hb dX11_count_170 rfl hl (by decide) rfl (fun ls hl => ?_)
    refine lv_iinc (v := 3) (lv' := [(3, .int 3), (2, .int 0), (0, .ref h), (1, .int 7)]) hx hb dX11_count_171 hl (k := 1) rfl (by decide) (by decide) rfl (fun ls hl => ?_)
    refine lv_goto (tgt := 148) hx hb dX11_count_174 (by decide) ?_
    refine lv_iload_n hx hb dX11_count_148 rfl (lv_at hl 0 rfl) ?_
    refine lv_iconst (v := 4) hx hb dX11_count_149 (by decide) ?_
    refine lv_icmp_ge (tgt := 177) hx hb dX11_count_150 (by decide) (fun c19 => False.elim (by revert c19; decide)) (fun c20 => ?_)
    refine lv_iload_n hx hb dX11_count_153 rfl (lv_at hl 1 rfl) ?_
    refine lv_aload_n hx hb dX11_count_154 rfl (lv_at hl 2 rfl) ?_
    refine getF hx hb ht hown hK hP iTX11 0 31 rfl rfl (by decide) fl_RX11_61 rfl dX11_count_155 ?_
    refine lv_iload_n hx hb dX11_count_158 rfl (lv_at hl 0 rfl) ?_
    refine va_iald hx hb hK.1 hP 2 0 rfl rfl (show ¬ (_ ∨ _) by decide) dX11_count_159 ?_
    refine lv_topi (fun v21 ev21 => ?_)
    obtain rfl : v21 = (-1) := ev21.trans rfl
    refine lv_iconst (v := (-1)) hx hb dX11_count_160 (by decide) ?_
    refine lv_icmp_ne (tgt := 168) hx hb dX11_count_161 (by decide) (fun c22 => False.elim (by revert c22; decide)) (fun c23 => ?_)
    refine lv_iconst (v := 0) hx hb dX11_count_164 (by decide) ?_
    refine lv_goto (tgt := 169) hx hb dX11_count_165 (by decide) ?_
    refine lv_iadd hx hb dX11_count_169 ?_
    refine lv_topi (fun v24 ev24 => ?_)
    obtain rfl : v24 = 0 := ev24.trans (by decide)
    refine lv_istore_n (lv' := [(2, .int 0), (3, .int 3), (0, .ref h), (1, .int 7)]) hx hb dX11_count_170 rfl hl (by decide) rfl (fun ls hl => ?_)
    refine lv_iinc (v := 4) (lv' := [(3, .int 4), (2, .int 0), (0, .ref h), (1, .int 7)]) hx hb dX11_count_171 hl (k := 1) rfl (by decide) (by decide) rfl (fun ls hl => ?_)
    refine lv_goto (tgt := 148) hx hb dX11_count_174 (by decide) ?_
    refine lv_iload_n hx hb dX11_count_148 rfl (lv_at hl 0 rfl) ?_
    refine lv_iconst (v := 4) hx hb dX11_count_149 (by decide) ?_
    refine lv_icmp_ge (tgt := 177) hx hb dX11_count_150 (by decide) (fun c26 => ?_) (fun c25 => False.elim (by revert c25; decide))
    refine lv_iload_n hx hb dX11_count_177 rfl (lv_at hl 1 rfl) ?_
    exact retPi hx hb hr hlk hS dX11_count_178 (by decide)

set_option maxRecDepth 100000 in
set_option maxHeartbeats 4000000 in
theorem pX11_back (l : Launch) (G : va_G) (cs : Nat → ClassId) (h : Nat) (q : Nat → Nat) (a1 : Int32) : PureI l yX11_back cX11_back 3 (some .int) 1 G (TY cs) [.ref h, .int a1] [(mc0 cs h q), (mc3 cs h q)] (spk 3 a1 (-6) (-2)) := by
  rcases cs3 a1 with hn0 | hb0 | rfl | rfl | rfl
  · refine mkP (Qc := QPi (spk 3 a1 (-6) (-2))) (by decide) (by simp [lg_sl, Value.category]) ?_
    intro p e s m args below meth c ls hx hb hml hr hlk hown ht hK hP hS hl
    have hl : lv_has ls 3 [(0, .ref h), (1, .int a1)] := hl
    refine lv_iload_n hx hb dX11_back_0 rfl (lv_at hl 1 rfl) ?_
    refine lv_i2l hx hb dX11_back_1 rfl ?_
    refine lv_lconst (v := 0) hx hb dX11_back_2 (by decide) ?_
    refine lv_ldc2 hx hb hown (ht _ kl_RX11_77) dX11_back_3 ?_
    refine behI (runSP (As := [.long a1.toInt64, .long 0, .long 2]) (rest := []) ⟨hx, hb, hml, hown, ht⟩ (pX11_in l G cs h q a1.toInt64 0 2) okS_RX11_79 ⟨by decide, by decide⟩ hK hP [] rfl hl.1 rfl (Nat.le_of_ble_eq_true rfl) dX11_back_6 ⟨by decide, by decide⟩) hP hS (fun _ h => h) (fun H locs hP hS => ?_)
    refine lv_topi (fun v1 ev1 => ?_)
    obtain rfl : v1 = 0 := ev1.trans (inF_n (by have z0 := ltT hn0; have k0 : (0 : Int32).toInt = 0 := (by decide); have K0 : (0 : Int64).toInt = 0 := (by decide); have K1 : (2 : Int64).toInt = 2 := (by decide); omega))
    refine lv_if_ne (tgt := 15) hx hb dX11_back_9 (by decide) (fun c2 => False.elim (by revert c2; decide)) (fun c3 => ?_)
    refine lv_bipush (v := (-2)) hx hb dX11_back_12 (by decide) ?_
    exact retPi hx hb hr hlk hS dX11_back_14 ((spk_lo hn0).symm)
  · refine mkP (Qc := QPi (spk 3 a1 (-6) (-2))) (by decide) (by simp [lg_sl, Value.category]) ?_
    intro p e s m args below meth c ls hx hb hml hr hlk hown ht hK hP hS hl
    have hl : lv_has ls 3 [(0, .ref h), (1, .int a1)] := hl
    refine lv_iload_n hx hb dX11_back_0 rfl (lv_at hl 1 rfl) ?_
    refine lv_i2l hx hb dX11_back_1 rfl ?_
    refine lv_lconst (v := 0) hx hb dX11_back_2 (by decide) ?_
    refine lv_ldc2 hx hb hown (ht _ kl_RX11_77) dX11_back_3 ?_
    refine behI (runSP (As := [.long a1.toInt64, .long 0, .long 2]) (rest := []) ⟨hx, hb, hml, hown, ht⟩ (pX11_in l G cs h q a1.toInt64 0 2) okS_RX11_79 ⟨by decide, by decide⟩ hK hP [] rfl hl.1 rfl (Nat.le_of_ble_eq_true rfl) dX11_back_6 ⟨by decide, by decide⟩) hP hS (fun _ h => h) (fun H locs hP hS => ?_)
    refine lv_topi (fun v1 ev1 => ?_)
    obtain rfl : v1 = 0 := ev1.trans (inF_n (by have z0 := leT hb0; have k0 : (3 : Int32).toInt = 3 := (by decide); have K0 : (0 : Int64).toInt = 0 := (by decide); have K1 : (2 : Int64).toInt = 2 := (by decide); omega))
    refine lv_if_ne (tgt := 15) hx hb dX11_back_9 (by decide) (fun c2 => False.elim (by revert c2; decide)) (fun c3 => ?_)
    refine lv_bipush (v := (-2)) hx hb dX11_back_12 (by decide) ?_
    exact retPi hx hb hr hlk hS dX11_back_14 ((spk_hi (by decide) hb0).symm)
  · refine mkP (Qc := QPi (spk 3 0 (-6) (-2))) (by decide) (by simp [lg_sl, Value.category]) ?_
    intro p e s m args below meth c ls hx hb hml hr hlk hown ht hK hP hS hl
    have hl : lv_has ls 3 [(0, .ref h), (1, .int 0)] := hl
    refine lv_iload_n hx hb dX11_back_0 rfl (lv_at hl 1 rfl) ?_
    refine lv_i2l (v := 0) hx hb dX11_back_1 (by decide) ?_
    refine lv_lconst (v := 0) hx hb dX11_back_2 (by decide) ?_
    refine lv_ldc2 hx hb hown (ht _ kl_RX11_77) dX11_back_3 ?_
    refine behI (runSP (As := [.long 0, .long 0, .long 2]) (rest := []) ⟨hx, hb, hml, hown, ht⟩ (pX11_in l G cs h q 0 0 2) okS_RX11_79 ⟨by decide, by decide⟩ hK hP [] rfl hl.1 rfl (Nat.le_of_ble_eq_true rfl) dX11_back_6 ⟨by decide, by decide⟩) hP hS (fun _ h => h) (fun H locs hP hS => ?_)
    refine lv_topi (fun v1 ev1 => ?_)
    obtain rfl : v1 = 1 := ev1.trans (by decide)
    refine lv_if_ne (tgt := 15) hx hb dX11_back_9 (by decide) (fun c3 => ?_) (fun c2 => False.elim (by revert c2; decide))
    refine lv_aload_n hx hb dX11_back_15 rfl (lv_at hl 0 rfl) ?_
    refine getF hx hb ht hown hK hP iTX11 0 3 rfl rfl (by decide) fl_RX11_16 rfl dX11_back_16 ?_
    refine lv_iload_n hx hb dX11_back_19 rfl (lv_at hl 1 rfl) ?_
    refine va_zald hx hb hK.1 hP 1 3 rfl rfl (show ¬ (_ ∨ _) by decide) dX11_back_20 ?_
    refine lv_topi (fun v4 ev4 => ?_)
    obtain rfl : v4 = 0 := ev4.trans rfl
    refine lv_if_ne (tgt := 27) hx hb dX11_back_21 (by decide) (fun c5 => False.elim (by revert c5; decide)) (fun c6 => ?_)
    refine lv_bipush (v := (-6)) hx hb dX11_back_24 (by decide) ?_
    exact retPi hx hb hr hlk hS dX11_back_26 (by decide)
  · refine mkP (Qc := QPi (spk 3 1 (-6) (-2))) (by decide) (by simp [lg_sl, Value.category]) ?_
    intro p e s m args below meth c ls hx hb hml hr hlk hown ht hK hP hS hl
    have hl : lv_has ls 3 [(0, .ref h), (1, .int 1)] := hl
    refine lv_iload_n hx hb dX11_back_0 rfl (lv_at hl 1 rfl) ?_
    refine lv_i2l (v := 1) hx hb dX11_back_1 (by decide) ?_
    refine lv_lconst (v := 0) hx hb dX11_back_2 (by decide) ?_
    refine lv_ldc2 hx hb hown (ht _ kl_RX11_77) dX11_back_3 ?_
    refine behI (runSP (As := [.long 1, .long 0, .long 2]) (rest := []) ⟨hx, hb, hml, hown, ht⟩ (pX11_in l G cs h q 1 0 2) okS_RX11_79 ⟨by decide, by decide⟩ hK hP [] rfl hl.1 rfl (Nat.le_of_ble_eq_true rfl) dX11_back_6 ⟨by decide, by decide⟩) hP hS (fun _ h => h) (fun H locs hP hS => ?_)
    refine lv_topi (fun v1 ev1 => ?_)
    obtain rfl : v1 = 1 := ev1.trans (by decide)
    refine lv_if_ne (tgt := 15) hx hb dX11_back_9 (by decide) (fun c3 => ?_) (fun c2 => False.elim (by revert c2; decide))
    refine lv_aload_n hx hb dX11_back_15 rfl (lv_at hl 0 rfl) ?_
    refine getF hx hb ht hown hK hP iTX11 0 3 rfl rfl (by decide) fl_RX11_16 rfl dX11_back_16 ?_
    refine lv_iload_n hx hb dX11_back_19 rfl (lv_at hl 1 rfl) ?_
    refine va_zald hx hb hK.1 hP 1 3 rfl rfl (show ¬ (_ ∨ _) by decide) dX11_back_20 ?_
    refine lv_topi (fun v4 ev4 => ?_)
    obtain rfl : v4 = 0 := ev4.trans rfl
    refine lv_if_ne (tgt := 27) hx hb dX11_back_21 (by decide) (fun c5 => False.elim (by revert c5; decide)) (fun c6 => ?_)
    refine lv_bipush (v := (-6)) hx hb dX11_back_24 (by decide) ?_
    exact retPi hx hb hr hlk hS dX11_back_26 (by decide)
  · refine mkP (Qc := QPi (spk 3 2 (-6) (-2))) (by decide) (by simp [lg_sl, Value.category]) ?_
    intro p e s m args below meth c ls hx hb hml hr hlk hown ht hK hP hS hl
    have hl : lv_has ls 3 [(0, .ref h), (1, .int 2)] := hl
    refine lv_iload_n hx hb dX11_back_0 rfl (lv_at hl 1 rfl) ?_
    refine lv_i2l (v := 2) hx hb dX11_back_1 (by decide) ?_
    refine lv_lconst (v := 0) hx hb dX11_back_2 (by decide) ?_
    refine lv_ldc2 hx hb hown (ht _ kl_RX11_77) dX11_back_3 ?_
    refine behI (runSP (As := [.long 2, .long 0, .long 2]) (rest := []) ⟨hx, hb, hml, hown, ht⟩ (pX11_in l G cs h q 2 0 2) okS_RX11_79 ⟨by decide, by decide⟩ hK hP [] rfl hl.1 rfl (Nat.le_of_ble_eq_true rfl) dX11_back_6 ⟨by decide, by decide⟩) hP hS (fun _ h => h) (fun H locs hP hS => ?_)
    refine lv_topi (fun v1 ev1 => ?_)
    obtain rfl : v1 = 1 := ev1.trans (by decide)
    refine lv_if_ne (tgt := 15) hx hb dX11_back_9 (by decide) (fun c3 => ?_) (fun c2 => False.elim (by revert c2; decide))
    refine lv_aload_n hx hb dX11_back_15 rfl (lv_at hl 0 rfl) ?_
    refine getF hx hb ht hown hK hP iTX11 0 3 rfl rfl (by decide) fl_RX11_16 rfl dX11_back_16 ?_
    refine lv_iload_n hx hb dX11_back_19 rfl (lv_at hl 1 rfl) ?_
    refine va_zald hx hb hK.1 hP 1 3 rfl rfl (show ¬ (_ ∨ _) by decide) dX11_back_20 ?_
    refine lv_topi (fun v4 ev4 => ?_)
    obtain rfl : v4 = 0 := ev4.trans rfl
    refine lv_if_ne (tgt := 27) hx hb dX11_back_21 (by decide) (fun c5 => False.elim (by revert c5; decide)) (fun c6 => ?_)
    refine lv_bipush (v := (-6)) hx hb dX11_back_24 (by decide) ?_
    exact retPi hx hb hr hlk hS dX11_back_26 (by decide)

set_option maxRecDepth 100000 in
set_option maxHeartbeats 4000000 in
theorem pX11_write (l : Launch) (G : va_G) (cs : Nat → ClassId) (h : Nat) (q : Nat → Nat) (a1 : Int32) (a2 : Int32) (a3 : Int64) : PureI l yX11_write cX11_write 5 (some .int) 2 G (TY cs) [.ref h, .int a1, .int a2, .long a3] [(mc0 cs h q), (mc31 cs h q)] (spk 4 a1 (-6) (-2)) := by
  rcases cs4 a1 with hn0 | hb0 | rfl | rfl | rfl | rfl
  · refine mkP (Qc := QPi (spk 4 a1 (-6) (-2))) (by decide) (by simp [lg_sl, Value.category]) ?_
    intro p e s m args below meth c ls hx hb hml hr hlk hown ht hK hP hS hl
    have hl : lv_has ls 5 [(0, .ref h), (1, .int a1), (2, .int a2), (3, .long a3)] := hl
    refine lv_iload_n hx hb dX11_write_0 rfl (lv_at hl 1 rfl) ?_
    refine behI (runSP (As := [.int a1]) (rest := []) ⟨hx, hb, hml, hown, ht⟩ (pX11_isSlot l G cs h q a1) okS_RX11_290 ⟨by decide, by decide⟩ hK hP [] rfl hl.1 rfl (Nat.le_of_ble_eq_true rfl) dX11_write_1 ⟨by decide, by decide⟩) hP hS (fun _ h => h) (fun H locs hP hS => ?_)
    refine lv_topi (fun v1 ev1 => ?_)
    obtain rfl : v1 = 0 := ev1.trans (inF_n (by have z0 := ltT hn0; have k0 : (0 : Int32).toInt = 0 := (by decide); have K0 : (0 : Int64).toInt = 0 := (by decide); have K1 : (3 : Int64).toInt = 3 := (by decide); omega))
    refine lv_if_ne (tgt := 10) hx hb dX11_write_4 (by decide) (fun c2 => False.elim (by revert c2; decide)) (fun c3 => ?_)
    refine lv_bipush (v := (-2)) hx hb dX11_write_7 (by decide) ?_
    exact retPi hx hb hr hlk hS dX11_write_9 ((spk_lo hn0).symm)
  · refine mkP (Qc := QPi (spk 4 a1 (-6) (-2))) (by decide) (by simp [lg_sl, Value.category]) ?_
    intro p e s m args below meth c ls hx hb hml hr hlk hown ht hK hP hS hl
    have hl : lv_has ls 5 [(0, .ref h), (1, .int a1), (2, .int a2), (3, .long a3)] := hl
    refine lv_iload_n hx hb dX11_write_0 rfl (lv_at hl 1 rfl) ?_
    refine behI (runSP (As := [.int a1]) (rest := []) ⟨hx, hb, hml, hown, ht⟩ (pX11_isSlot l G cs h q a1) okS_RX11_290 ⟨by decide, by decide⟩ hK hP [] rfl hl.1 rfl (Nat.le_of_ble_eq_true rfl) dX11_write_1 ⟨by decide, by decide⟩) hP hS (fun _ h => h) (fun H locs hP hS => ?_)
    refine lv_topi (fun v1 ev1 => ?_)
    obtain rfl : v1 = 0 := ev1.trans (inF_n (by have z0 := leT hb0; have k0 : (4 : Int32).toInt = 4 := (by decide); have K0 : (0 : Int64).toInt = 0 := (by decide); have K1 : (3 : Int64).toInt = 3 := (by decide); omega))
    refine lv_if_ne (tgt := 10) hx hb dX11_write_4 (by decide) (fun c2 => False.elim (by revert c2; decide)) (fun c3 => ?_)
    refine lv_bipush (v := (-2)) hx hb dX11_write_7 (by decide) ?_
    exact retPi hx hb hr hlk hS dX11_write_9 ((spk_hi (by decide) hb0).symm)
  · refine mkP (Qc := QPi (spk 4 0 (-6) (-2))) (by decide) (by simp [lg_sl, Value.category]) ?_
    intro p e s m args below meth c ls hx hb hml hr hlk hown ht hK hP hS hl
    have hl : lv_has ls 5 [(0, .ref h), (1, .int 0), (2, .int a2), (3, .long a3)] := hl
    refine lv_iload_n hx hb dX11_write_0 rfl (lv_at hl 1 rfl) ?_
    refine behI (runSP (As := [.int 0]) (rest := []) ⟨hx, hb, hml, hown, ht⟩ (pX11_isSlot l G cs h q 0) okS_RX11_290 ⟨by decide, by decide⟩ hK hP [] rfl hl.1 rfl (Nat.le_of_ble_eq_true rfl) dX11_write_1 ⟨by decide, by decide⟩) hP hS (fun _ h => h) (fun H locs hP hS => ?_)
    refine lv_topi (fun v1 ev1 => ?_)
    obtain rfl : v1 = 1 := ev1.trans (by decide)
    refine lv_if_ne (tgt := 10) hx hb dX11_write_4 (by decide) (fun c3 => ?_) (fun c2 => False.elim (by revert c2; decide))
    refine lv_aload_n hx hb dX11_write_10 rfl (lv_at hl 0 rfl) ?_
    refine getF hx hb ht hown hK hP iTX11 0 31 rfl rfl (by decide) fl_RX11_61 rfl dX11_write_11 ?_
    refine lv_iload_n hx hb dX11_write_14 rfl (lv_at hl 1 rfl) ?_
    refine va_iald hx hb hK.1 hP 1 0 rfl rfl (show ¬ (_ ∨ _) by decide) dX11_write_15 ?_
    refine lv_topi (fun v4 ev4 => ?_)
    obtain rfl : v4 = (-1) := ev4.trans rfl
    refine lv_iconst (v := (-1)) hx hb dX11_write_16 (by decide) ?_
    refine lv_icmp_ne (tgt := 23) hx hb dX11_write_17 (by decide) (fun c5 => False.elim (by revert c5; decide)) (fun c6 => ?_)
    refine lv_bipush (v := (-6)) hx hb dX11_write_20 (by decide) ?_
    exact retPi hx hb hr hlk hS dX11_write_22 (by decide)
  · refine mkP (Qc := QPi (spk 4 1 (-6) (-2))) (by decide) (by simp [lg_sl, Value.category]) ?_
    intro p e s m args below meth c ls hx hb hml hr hlk hown ht hK hP hS hl
    have hl : lv_has ls 5 [(0, .ref h), (1, .int 1), (2, .int a2), (3, .long a3)] := hl
    refine lv_iload_n hx hb dX11_write_0 rfl (lv_at hl 1 rfl) ?_
    refine behI (runSP (As := [.int 1]) (rest := []) ⟨hx, hb, hml, hown, ht⟩ (pX11_isSlot l G cs h q 1) okS_RX11_290 ⟨by decide, by decide⟩ hK hP [] rfl hl.1 rfl (Nat.le_of_ble_eq_true rfl) dX11_write_1 ⟨by decide, by decide⟩) hP hS (fun _ h => h) (fun H locs hP hS => ?_)
    refine lv_topi (fun v1 ev1 => ?_)
    obtain rfl : v1 = 1 := ev1.trans (by decide)
    refine lv_if_ne (tgt := 10) hx hb dX11_write_4 (by decide) (fun c3 => ?_) (fun c2 => False.elim (by revert c2; decide))
    refine lv_aload_n hx hb dX11_write_10 rfl (lv_at hl 0 rfl) ?_
    refine getF hx hb ht hown hK hP iTX11 0 31 rfl rfl (by decide) fl_RX11_61 rfl dX11_write_11 ?_
    refine lv_iload_n hx hb dX11_write_14 rfl (lv_at hl 1 rfl) ?_
    refine va_iald hx hb hK.1 hP 1 0 rfl rfl (show ¬ (_ ∨ _) by decide) dX11_write_15 ?_
    refine lv_topi (fun v4 ev4 => ?_)
    obtain rfl : v4 = (-1) := ev4.trans rfl
    refine lv_iconst (v := (-1)) hx hb dX11_write_16 (by decide) ?_
    refine lv_icmp_ne (tgt := 23) hx hb dX11_write_17 (by decide) (fun c5 => False.elim (by revert c5; decide)) (fun c6 => ?_)
    refine lv_bipush (v := (-6)) hx hb dX11_write_20 (by decide) ?_
    exact retPi hx hb hr hlk hS dX11_write_22 (by decide)
  · refine mkP (Qc := QPi (spk 4 2 (-6) (-2))) (by decide) (by simp [lg_sl, Value.category]) ?_
    intro p e s m args below meth c ls hx hb hml hr hlk hown ht hK hP hS hl
    have hl : lv_has ls 5 [(0, .ref h), (1, .int 2), (2, .int a2), (3, .long a3)] := hl
    refine lv_iload_n hx hb dX11_write_0 rfl (lv_at hl 1 rfl) ?_
    refine behI (runSP (As := [.int 2]) (rest := []) ⟨hx, hb, hml, hown, ht⟩ (pX11_isSlot l G cs h q 2) okS_RX11_290 ⟨by decide, by decide⟩ hK hP [] rfl hl.1 rfl (Nat.le_of_ble_eq_true rfl) dX11_write_1 ⟨by decide, by decide⟩) hP hS (fun _ h => h) (fun H locs hP hS => ?_)
    refine lv_topi (fun v1 ev1 => ?_)
    obtain rfl : v1 = 1 := ev1.trans (by decide)
    refine lv_if_ne (tgt := 10) hx hb dX11_write_4 (by decide) (fun c3 => ?_) (fun c2 => False.elim (by revert c2; decide))
    refine lv_aload_n hx hb dX11_write_10 rfl (lv_at hl 0 rfl) ?_
    refine getF hx hb ht hown hK hP iTX11 0 31 rfl rfl (by decide) fl_RX11_61 rfl dX11_write_11 ?_
    refine lv_iload_n hx hb dX11_write_14 rfl (lv_at hl 1 rfl) ?_
    refine va_iald hx hb hK.1 hP 1 0 rfl rfl (show ¬ (_ ∨ _) by decide) dX11_write_15 ?_
    refine lv_topi (fun v4 ev4 => ?_)
    obtain rfl : v4 = (-1) := ev4.trans rfl
    refine lv_iconst (v := (-1)) hx hb dX11_write_16 (by decide) ?_
    refine lv_icmp_ne (tgt := 23) hx hb dX11_write_17 (by decide) (fun c5 => False.elim (by revert c5; decide)) (fun c6 => ?_)
    refine lv_bipush (v := (-6)) hx hb dX11_write_20 (by decide) ?_
    exact retPi hx hb hr hlk hS dX11_write_22 (by decide)
  · refine mkP (Qc := QPi (spk 4 3 (-6) (-2))) (by decide) (by simp [lg_sl, Value.category]) ?_
    intro p e s m args below meth c ls hx hb hml hr hlk hown ht hK hP hS hl
    have hl : lv_has ls 5 [(0, .ref h), (1, .int 3), (2, .int a2), (3, .long a3)] := hl
    refine lv_iload_n hx hb dX11_write_0 rfl (lv_at hl 1 rfl) ?_
    refine behI (runSP (As := [.int 3]) (rest := []) ⟨hx, hb, hml, hown, ht⟩ (pX11_isSlot l G cs h q 3) okS_RX11_290 ⟨by decide, by decide⟩ hK hP [] rfl hl.1 rfl (Nat.le_of_ble_eq_true rfl) dX11_write_1 ⟨by decide, by decide⟩) hP hS (fun _ h => h) (fun H locs hP hS => ?_)
    refine lv_topi (fun v1 ev1 => ?_)
    obtain rfl : v1 = 1 := ev1.trans (by decide)
    refine lv_if_ne (tgt := 10) hx hb dX11_write_4 (by decide) (fun c3 => ?_) (fun c2 => False.elim (by revert c2; decide))
    refine lv_aload_n hx hb dX11_write_10 rfl (lv_at hl 0 rfl) ?_
    refine getF hx hb ht hown hK hP iTX11 0 31 rfl rfl (by decide) fl_RX11_61 rfl dX11_write_11 ?_
    refine lv_iload_n hx hb dX11_write_14 rfl (lv_at hl 1 rfl) ?_
    refine va_iald hx hb hK.1 hP 1 0 rfl rfl (show ¬ (_ ∨ _) by decide) dX11_write_15 ?_
    refine lv_topi (fun v4 ev4 => ?_)
    obtain rfl : v4 = (-1) := ev4.trans rfl
    refine lv_iconst (v := (-1)) hx hb dX11_write_16 (by decide) ?_
    refine lv_icmp_ne (tgt := 23) hx hb dX11_write_17 (by decide) (fun c5 => False.elim (by revert c5; decide)) (fun c6 => ?_)
    refine lv_bipush (v := (-6)) hx hb dX11_write_20 (by decide) ?_
    exact retPi hx hb hr hlk hS dX11_write_22 (by decide)

set_option maxRecDepth 100000 in
set_option maxHeartbeats 4000000 in
theorem pX11_paste (l : Launch) (G : va_G) (cs : Nat → ClassId) (h : Nat) (q : Nat → Nat) (a1 : Int32) (a2 : Int32) (a3 : Int32) (a4 : Int32) (a5 : Int32) : PureI l yX11_paste cX11_paste 7 (some .int) 2 G (TY cs) [.ref h, .int a1, .int a2, .int a3, .int a4, .int a5] [(mc0 cs h q), (mc31 cs h q)] (spk 4 a1 (spk 4 a3 (-6) (-2)) (-2)) := by
  rcases cs4 a1 with hn0 | hb0 | rfl | rfl | rfl | rfl
  · refine mkP (Qc := QPi (spk 4 a1 (spk 4 a3 (-6) (-2)) (-2))) (by decide) (by simp [lg_sl, Value.category]) ?_
    intro p e s m args below meth c ls hx hb hml hr hlk hown ht hK hP hS hl
    have hl : lv_has ls 7 [(0, .ref h), (1, .int a1), (2, .int a2), (3, .int a3), (4, .int a4), (5, .int a5)] := hl
    refine lv_iload_n hx hb dX11_paste_0 rfl (lv_at hl 1 rfl) ?_
    refine behI (runSP (As := [.int a1]) (rest := []) ⟨hx, hb, hml, hown, ht⟩ (pX11_isSlot l G cs h q a1) okS_RX11_290 ⟨by decide, by decide⟩ hK hP [] rfl hl.1 rfl (Nat.le_of_ble_eq_true rfl) dX11_paste_1 ⟨by decide, by decide⟩) hP hS (fun _ h => h) (fun H locs hP hS => ?_)
    refine lv_topi (fun v1 ev1 => ?_)
    obtain rfl : v1 = 0 := ev1.trans (inF_n (by have z0 := ltT hn0; have k0 : (0 : Int32).toInt = 0 := (by decide); have K0 : (0 : Int64).toInt = 0 := (by decide); have K1 : (3 : Int64).toInt = 3 := (by decide); omega))
    refine lv_if_eq (tgt := 14) hx hb dX11_paste_4 (by decide) (fun c3 => ?_) (fun c2 => False.elim (by revert c2; decide))
    refine lv_bipush (v := (-2)) hx hb dX11_paste_14 (by decide) ?_
    exact retPi hx hb hr hlk hS dX11_paste_16 ((spk_lo hn0).symm)
  · refine mkP (Qc := QPi (spk 4 a1 (spk 4 a3 (-6) (-2)) (-2))) (by decide) (by simp [lg_sl, Value.category]) ?_
    intro p e s m args below meth c ls hx hb hml hr hlk hown ht hK hP hS hl
    have hl : lv_has ls 7 [(0, .ref h), (1, .int a1), (2, .int a2), (3, .int a3), (4, .int a4), (5, .int a5)] := hl
    refine lv_iload_n hx hb dX11_paste_0 rfl (lv_at hl 1 rfl) ?_
    refine behI (runSP (As := [.int a1]) (rest := []) ⟨hx, hb, hml, hown, ht⟩ (pX11_isSlot l G cs h q a1) okS_RX11_290 ⟨by decide, by decide⟩ hK hP [] rfl hl.1 rfl (Nat.le_of_ble_eq_true rfl) dX11_paste_1 ⟨by decide, by decide⟩) hP hS (fun _ h => h) (fun H locs hP hS => ?_)
    refine lv_topi (fun v1 ev1 => ?_)
    obtain rfl : v1 = 0 := ev1.trans (inF_n (by have z0 := leT hb0; have k0 : (4 : Int32).toInt = 4 := (by decide); have K0 : (0 : Int64).toInt = 0 := (by decide); have K1 : (3 : Int64).toInt = 3 := (by decide); omega))
    refine lv_if_eq (tgt := 14) hx hb dX11_paste_4 (by decide) (fun c3 => ?_) (fun c2 => False.elim (by revert c2; decide))
    refine lv_bipush (v := (-2)) hx hb dX11_paste_14 (by decide) ?_
    exact retPi hx hb hr hlk hS dX11_paste_16 ((spk_hi (by decide) hb0).symm)
  · rcases cs4 a3 with hn2 | hb2 | rfl | rfl | rfl | rfl
    · refine mkP (Qc := QPi (spk 4 0 (spk 4 a3 (-6) (-2)) (-2))) (by decide) (by simp [lg_sl, Value.category]) ?_
      intro p e s m args below meth c ls hx hb hml hr hlk hown ht hK hP hS hl
      have hl : lv_has ls 7 [(0, .ref h), (1, .int 0), (2, .int a2), (3, .int a3), (4, .int a4), (5, .int a5)] := hl
      refine lv_iload_n hx hb dX11_paste_0 rfl (lv_at hl 1 rfl) ?_
      refine behI (runSP (As := [.int 0]) (rest := []) ⟨hx, hb, hml, hown, ht⟩ (pX11_isSlot l G cs h q 0) okS_RX11_290 ⟨by decide, by decide⟩ hK hP [] rfl hl.1 rfl (Nat.le_of_ble_eq_true rfl) dX11_paste_1 ⟨by decide, by decide⟩) hP hS (fun _ h => h) (fun H locs hP hS => ?_)
      refine lv_topi (fun v1 ev1 => ?_)
      obtain rfl : v1 = 1 := ev1.trans (by decide)
      refine lv_if_eq (tgt := 14) hx hb dX11_paste_4 (by decide) (fun c2 => False.elim (by revert c2; decide)) (fun c3 => ?_)
      refine lv_iload_n hx hb dX11_paste_7 rfl (lv_at hl 3 rfl) ?_
      refine behI (runSP (As := [.int a3]) (rest := []) ⟨hx, hb, hml, hown, ht⟩ (pX11_isSlot l G cs h q a3) okS_RX11_290 ⟨by decide, by decide⟩ hK hP [] rfl hl.1 rfl (Nat.le_of_ble_eq_true rfl) dX11_paste_8 ⟨by decide, by decide⟩) hP hS (fun _ h => h) (fun H locs hP hS => ?_)
      refine lv_topi (fun v4 ev4 => ?_)
      obtain rfl : v4 = 0 := ev4.trans (inF_n (by have z0 := ltT hn2; have k0 : (0 : Int32).toInt = 0 := (by decide); have K0 : (0 : Int64).toInt = 0 := (by decide); have K1 : (3 : Int64).toInt = 3 := (by decide); omega))
      refine lv_if_ne (tgt := 17) hx hb dX11_paste_11 (by decide) (fun c5 => False.elim (by revert c5; decide)) (fun c6 => ?_)
      refine lv_bipush (v := (-2)) hx hb dX11_paste_14 (by decide) ?_
      exact retPi hx hb hr hlk hS dX11_paste_16 ((show _ = spk 4 _ (spk 4 a3 (-6) (-2)) (-2) by rw [spk_lo hn2]; decide))
    · refine mkP (Qc := QPi (spk 4 0 (spk 4 a3 (-6) (-2)) (-2))) (by decide) (by simp [lg_sl, Value.category]) ?_
      intro p e s m args below meth c ls hx hb hml hr hlk hown ht hK hP hS hl
      have hl : lv_has ls 7 [(0, .ref h), (1, .int 0), (2, .int a2), (3, .int a3), (4, .int a4), (5, .int a5)] := hl
      refine lv_iload_n hx hb dX11_paste_0 rfl (lv_at hl 1 rfl) ?_
      refine behI (runSP (As := [.int 0]) (rest := []) ⟨hx, hb, hml, hown, ht⟩ (pX11_isSlot l G cs h q 0) okS_RX11_290 ⟨by decide, by decide⟩ hK hP [] rfl hl.1 rfl (Nat.le_of_ble_eq_true rfl) dX11_paste_1 ⟨by decide, by decide⟩) hP hS (fun _ h => h) (fun H locs hP hS => ?_)
      refine lv_topi (fun v1 ev1 => ?_)
      obtain rfl : v1 = 1 := ev1.trans (by decide)
      refine lv_if_eq (tgt := 14) hx hb dX11_paste_4 (by decide) (fun c2 => False.elim (by revert c2; decide)) (fun c3 => ?_)
      refine lv_iload_n hx hb dX11_paste_7 rfl (lv_at hl 3 rfl) ?_
      refine behI (runSP (As := [.int a3]) (rest := []) ⟨hx, hb, hml, hown, ht⟩ (pX11_isSlot l G cs h q a3) okS_RX11_290 ⟨by decide, by decide⟩ hK hP [] rfl hl.1 rfl (Nat.le_of_ble_eq_true rfl) dX11_paste_8 ⟨by decide, by decide⟩) hP hS (fun _ h => h) (fun H locs hP hS => ?_)
      refine lv_topi (fun v4 ev4 => ?_)
      obtain rfl : v4 = 0 := ev4.trans (inF_n (by have z0 := leT hb2; have k0 : (4 : Int32).toInt = 4 := (by decide); have K0 : (0 : Int64).toInt = 0 := (by decide); have K1 : (3 : Int64).toInt = 3 := (by decide); omega))
      refine lv_if_ne (tgt := 17) hx hb dX11_paste_11 (by decide) (fun c5 => False.elim (by revert c5; decide)) (fun c6 => ?_)
      refine lv_bipush (v := (-2)) hx hb dX11_paste_14 (by decide) ?_
      exact retPi hx hb hr hlk hS dX11_paste_16 ((show _ = spk 4 _ (spk 4 a3 (-6) (-2)) (-2) by rw [spk_hi (by decide) hb2]; decide))
    · refine mkP (Qc := QPi (spk 4 0 (spk 4 0 (-6) (-2)) (-2))) (by decide) (by simp [lg_sl, Value.category]) ?_
      intro p e s m args below meth c ls hx hb hml hr hlk hown ht hK hP hS hl
      have hl : lv_has ls 7 [(0, .ref h), (1, .int 0), (2, .int a2), (3, .int 0), (4, .int a4), (5, .int a5)] := hl
      refine lv_iload_n hx hb dX11_paste_0 rfl (lv_at hl 1 rfl) ?_
      refine behI (runSP (As := [.int 0]) (rest := []) ⟨hx, hb, hml, hown, ht⟩ (pX11_isSlot l G cs h q 0) okS_RX11_290 ⟨by decide, by decide⟩ hK hP [] rfl hl.1 rfl (Nat.le_of_ble_eq_true rfl) dX11_paste_1 ⟨by decide, by decide⟩) hP hS (fun _ h => h) (fun H locs hP hS => ?_)
      refine lv_topi (fun v1 ev1 => ?_)
      obtain rfl : v1 = 1 := ev1.trans (by decide)
      refine lv_if_eq (tgt := 14) hx hb dX11_paste_4 (by decide) (fun c2 => False.elim (by revert c2; decide)) (fun c3 => ?_)
      refine lv_iload_n hx hb dX11_paste_7 rfl (lv_at hl 3 rfl) ?_
      refine behI (runSP (As := [.int 0]) (rest := []) ⟨hx, hb, hml, hown, ht⟩ (pX11_isSlot l G cs h q 0) okS_RX11_290 ⟨by decide, by decide⟩ hK hP [] rfl hl.1 rfl (Nat.le_of_ble_eq_true rfl) dX11_paste_8 ⟨by decide, by decide⟩) hP hS (fun _ h => h) (fun H locs hP hS => ?_)
      refine lv_topi (fun v4 ev4 => ?_)
      obtain rfl : v4 = 1 := ev4.trans (by decide)
      refine lv_if_ne (tgt := 17) hx hb dX11_paste_11 (by decide) (fun c6 => ?_) (fun c5 => False.elim (by revert c5; decide))
      refine lv_aload_n hx hb dX11_paste_17 rfl (lv_at hl 0 rfl) ?_
      refine getF hx hb ht hown hK hP iTX11 0 31 rfl rfl (by decide) fl_RX11_61 rfl dX11_paste_18 ?_
      refine lv_iload_n hx hb dX11_paste_21 rfl (lv_at hl 1 rfl) ?_
      refine va_iald hx hb hK.1 hP 1 0 rfl rfl (show ¬ (_ ∨ _) by decide) dX11_paste_22 ?_
      refine lv_topi (fun v7 ev7 => ?_)
      obtain rfl : v7 = (-1) := ev7.trans rfl
      refine lv_iconst (v := (-1)) hx hb dX11_paste_23 (by decide) ?_
      refine lv_icmp_eq (tgt := 37) hx hb dX11_paste_24 (by decide) (fun c9 => ?_) (fun c8 => False.elim (by revert c8; decide))
      refine lv_bipush (v := (-6)) hx hb dX11_paste_37 (by decide) ?_
      exact retPi hx hb hr hlk hS dX11_paste_39 (by decide)
    · refine mkP (Qc := QPi (spk 4 0 (spk 4 1 (-6) (-2)) (-2))) (by decide) (by simp [lg_sl, Value.category]) ?_
      intro p e s m args below meth c ls hx hb hml hr hlk hown ht hK hP hS hl
      have hl : lv_has ls 7 [(0, .ref h), (1, .int 0), (2, .int a2), (3, .int 1), (4, .int a4), (5, .int a5)] := hl
      refine lv_iload_n hx hb dX11_paste_0 rfl (lv_at hl 1 rfl) ?_
      refine behI (runSP (As := [.int 0]) (rest := []) ⟨hx, hb, hml, hown, ht⟩ (pX11_isSlot l G cs h q 0) okS_RX11_290 ⟨by decide, by decide⟩ hK hP [] rfl hl.1 rfl (Nat.le_of_ble_eq_true rfl) dX11_paste_1 ⟨by decide, by decide⟩) hP hS (fun _ h => h) (fun H locs hP hS => ?_)
      refine lv_topi (fun v1 ev1 => ?_)
      obtain rfl : v1 = 1 := ev1.trans (by decide)
      refine lv_if_eq (tgt := 14) hx hb dX11_paste_4 (by decide) (fun c2 => False.elim (by revert c2; decide)) (fun c3 => ?_)
      refine lv_iload_n hx hb dX11_paste_7 rfl (lv_at hl 3 rfl) ?_
      refine behI (runSP (As := [.int 1]) (rest := []) ⟨hx, hb, hml, hown, ht⟩ (pX11_isSlot l G cs h q 1) okS_RX11_290 ⟨by decide, by decide⟩ hK hP [] rfl hl.1 rfl (Nat.le_of_ble_eq_true rfl) dX11_paste_8 ⟨by decide, by decide⟩) hP hS (fun _ h => h) (fun H locs hP hS => ?_)
      refine lv_topi (fun v4 ev4 => ?_)
      obtain rfl : v4 = 1 := ev4.trans (by decide)
      refine lv_if_ne (tgt := 17) hx hb dX11_paste_11 (by decide) (fun c6 => ?_) (fun c5 => False.elim (by revert c5; decide))
      refine lv_aload_n hx hb dX11_paste_17 rfl (lv_at hl 0 rfl) ?_
      refine getF hx hb ht hown hK hP iTX11 0 31 rfl rfl (by decide) fl_RX11_61 rfl dX11_paste_18 ?_
      refine lv_iload_n hx hb dX11_paste_21 rfl (lv_at hl 1 rfl) ?_
      refine va_iald hx hb hK.1 hP 1 0 rfl rfl (show ¬ (_ ∨ _) by decide) dX11_paste_22 ?_
      refine lv_topi (fun v7 ev7 => ?_)
      obtain rfl : v7 = (-1) := ev7.trans rfl
      refine lv_iconst (v := (-1)) hx hb dX11_paste_23 (by decide) ?_
      refine lv_icmp_eq (tgt := 37) hx hb dX11_paste_24 (by decide) (fun c9 => ?_) (fun c8 => False.elim (by revert c8; decide))
      refine lv_bipush (v := (-6)) hx hb dX11_paste_37 (by decide) ?_
      exact retPi hx hb hr hlk hS dX11_paste_39 (by decide)
    · refine mkP (Qc := QPi (spk 4 0 (spk 4 2 (-6) (-2)) (-2))) (by decide) (by simp [lg_sl, Value.category]) ?_
      intro p e s m args below meth c ls hx hb hml hr hlk hown ht hK hP hS hl
      have hl : lv_has ls 7 [(0, .ref h), (1, .int 0), (2, .int a2), (3, .int 2), (4, .int a4), (5, .int a5)] := hl
      refine lv_iload_n hx hb dX11_paste_0 rfl (lv_at hl 1 rfl) ?_
      refine behI (runSP (As := [.int 0]) (rest := []) ⟨hx, hb, hml, hown, ht⟩ (pX11_isSlot l G cs h q 0) okS_RX11_290 ⟨by decide, by decide⟩ hK hP [] rfl hl.1 rfl (Nat.le_of_ble_eq_true rfl) dX11_paste_1 ⟨by decide, by decide⟩) hP hS (fun _ h => h) (fun H locs hP hS => ?_)
      refine lv_topi (fun v1 ev1 => ?_)
      obtain rfl : v1 = 1 := ev1.trans (by decide)
      refine lv_if_eq (tgt := 14) hx hb dX11_paste_4 (by decide) (fun c2 => False.elim (by revert c2; decide)) (fun c3 => ?_)
      refine lv_iload_n hx hb dX11_paste_7 rfl (lv_at hl 3 rfl) ?_
      refine behI (runSP (As := [.int 2]) (rest := []) ⟨hx, hb, hml, hown, ht⟩ (pX11_isSlot l G cs h q 2) okS_RX11_290 ⟨by decide, by decide⟩ hK hP [] rfl hl.1 rfl (Nat.le_of_ble_eq_true rfl) dX11_paste_8 ⟨by decide, by decide⟩) hP hS (fun _ h => h) (fun H locs hP hS => ?_)
      refine lv_topi (fun v4 ev4 => ?_)
      obtain rfl : v4 = 1 := ev4.trans (by decide)
      refine lv_if_ne (tgt := 17) hx hb dX11_paste_11 (by decide) (fun c6 => ?_) (fun c5 => False.elim (by revert c5; decide))
      refine lv_aload_n hx hb dX11_paste_17 rfl (lv_at hl 0 rfl) ?_
      refine getF hx hb ht hown hK hP iTX11 0 31 rfl rfl (by decide) fl_RX11_61 rfl dX11_paste_18 ?_
      refine lv_iload_n hx hb dX11_paste_21 rfl (lv_at hl 1 rfl) ?_
      refine va_iald hx hb hK.1 hP 1 0 rfl rfl (show ¬ (_ ∨ _) by decide) dX11_paste_22 ?_
      refine lv_topi (fun v7 ev7 => ?_)
      obtain rfl : v7 = (-1) := ev7.trans rfl
      refine lv_iconst (v := (-1)) hx hb dX11_paste_23 (by decide) ?_
      refine lv_icmp_eq (tgt := 37) hx hb dX11_paste_24 (by decide) (fun c9 => ?_) (fun c8 => False.elim (by revert c8; decide))
      refine lv_bipush (v := (-6)) hx hb dX11_paste_37 (by decide) ?_
      exact retPi hx hb hr hlk hS dX11_paste_39 (by decide)
    · refine mkP (Qc := QPi (spk 4 0 (spk 4 3 (-6) (-2)) (-2))) (by decide) (by simp [lg_sl, Value.category]) ?_
      intro p e s m args below meth c ls hx hb hml hr hlk hown ht hK hP hS hl
      have hl : lv_has ls 7 [(0, .ref h), (1, .int 0), (2, .int a2), (3, .int 3), (4, .int a4), (5, .int a5)] := hl
      refine lv_iload_n hx hb dX11_paste_0 rfl (lv_at hl 1 rfl) ?_
      refine behI (runSP (As := [.int 0]) (rest := []) ⟨hx, hb, hml, hown, ht⟩ (pX11_isSlot l G cs h q 0) okS_RX11_290 ⟨by decide, by decide⟩ hK hP [] rfl hl.1 rfl (Nat.le_of_ble_eq_true rfl) dX11_paste_1 ⟨by decide, by decide⟩) hP hS (fun _ h => h) (fun H locs hP hS => ?_)
      refine lv_topi (fun v1 ev1 => ?_)
      obtain rfl : v1 = 1 := ev1.trans (by decide)
      refine lv_if_eq (tgt := 14) hx hb dX11_paste_4 (by decide) (fun c2 => False.elim (by revert c2; decide)) (fun c3 => ?_)
      refine lv_iload_n hx hb dX11_paste_7 rfl (lv_at hl 3 rfl) ?_
      refine behI (runSP (As := [.int 3]) (rest := []) ⟨hx, hb, hml, hown, ht⟩ (pX11_isSlot l G cs h q 3) okS_RX11_290 ⟨by decide, by decide⟩ hK hP [] rfl hl.1 rfl (Nat.le_of_ble_eq_true rfl) dX11_paste_8 ⟨by decide, by decide⟩) hP hS (fun _ h => h) (fun H locs hP hS => ?_)
      refine lv_topi (fun v4 ev4 => ?_)
      obtain rfl : v4 = 1 := ev4.trans (by decide)
      refine lv_if_ne (tgt := 17) hx hb dX11_paste_11 (by decide) (fun c6 => ?_) (fun c5 => False.elim (by revert c5; decide))
      refine lv_aload_n hx hb dX11_paste_17 rfl (lv_at hl 0 rfl) ?_
      refine getF hx hb ht hown hK hP iTX11 0 31 rfl rfl (by decide) fl_RX11_61 rfl dX11_paste_18 ?_
      refine lv_iload_n hx hb dX11_paste_21 rfl (lv_at hl 1 rfl) ?_
      refine va_iald hx hb hK.1 hP 1 0 rfl rfl (show ¬ (_ ∨ _) by decide) dX11_paste_22 ?_
      refine lv_topi (fun v7 ev7 => ?_)
      obtain rfl : v7 = (-1) := ev7.trans rfl
      refine lv_iconst (v := (-1)) hx hb dX11_paste_23 (by decide) ?_
      refine lv_icmp_eq (tgt := 37) hx hb dX11_paste_24 (by decide) (fun c9 => ?_) (fun c8 => False.elim (by revert c8; decide))
      refine lv_bipush (v := (-6)) hx hb dX11_paste_37 (by decide) ?_
      exact retPi hx hb hr hlk hS dX11_paste_39 (by decide)
  · rcases cs4 a3 with hn2 | hb2 | rfl | rfl | rfl | rfl
    · refine mkP (Qc := QPi (spk 4 1 (spk 4 a3 (-6) (-2)) (-2))) (by decide) (by simp [lg_sl, Value.category]) ?_
      intro p e s m args below meth c ls hx hb hml hr hlk hown ht hK hP hS hl
      have hl : lv_has ls 7 [(0, .ref h), (1, .int 1), (2, .int a2), (3, .int a3), (4, .int a4), (5, .int a5)] := hl
      refine lv_iload_n hx hb dX11_paste_0 rfl (lv_at hl 1 rfl) ?_
      refine behI (runSP (As := [.int 1]) (rest := []) ⟨hx, hb, hml, hown, ht⟩ (pX11_isSlot l G cs h q 1) okS_RX11_290 ⟨by decide, by decide⟩ hK hP [] rfl hl.1 rfl (Nat.le_of_ble_eq_true rfl) dX11_paste_1 ⟨by decide, by decide⟩) hP hS (fun _ h => h) (fun H locs hP hS => ?_)
      refine lv_topi (fun v1 ev1 => ?_)
      obtain rfl : v1 = 1 := ev1.trans (by decide)
      refine lv_if_eq (tgt := 14) hx hb dX11_paste_4 (by decide) (fun c2 => False.elim (by revert c2; decide)) (fun c3 => ?_)
      refine lv_iload_n hx hb dX11_paste_7 rfl (lv_at hl 3 rfl) ?_
      refine behI (runSP (As := [.int a3]) (rest := []) ⟨hx, hb, hml, hown, ht⟩ (pX11_isSlot l G cs h q a3) okS_RX11_290 ⟨by decide, by decide⟩ hK hP [] rfl hl.1 rfl (Nat.le_of_ble_eq_true rfl) dX11_paste_8 ⟨by decide, by decide⟩) hP hS (fun _ h => h) (fun H locs hP hS => ?_)
      refine lv_topi (fun v4 ev4 => ?_)
      obtain rfl : v4 = 0 := ev4.trans (inF_n (by have z0 := ltT hn2; have k0 : (0 : Int32).toInt = 0 := (by decide); have K0 : (0 : Int64).toInt = 0 := (by decide); have K1 : (3 : Int64).toInt = 3 := (by decide); omega))
      refine lv_if_ne (tgt := 17) hx hb dX11_paste_11 (by decide) (fun c5 => False.elim (by revert c5; decide)) (fun c6 => ?_)
      refine lv_bipush (v := (-2)) hx hb dX11_paste_14 (by decide) ?_
      exact retPi hx hb hr hlk hS dX11_paste_16 ((show _ = spk 4 _ (spk 4 a3 (-6) (-2)) (-2) by rw [spk_lo hn2]; decide))
    · refine mkP (Qc := QPi (spk 4 1 (spk 4 a3 (-6) (-2)) (-2))) (by decide) (by simp [lg_sl, Value.category]) ?_
      intro p e s m args below meth c ls hx hb hml hr hlk hown ht hK hP hS hl
      have hl : lv_has ls 7 [(0, .ref h), (1, .int 1), (2, .int a2), (3, .int a3), (4, .int a4), (5, .int a5)] := hl
      refine lv_iload_n hx hb dX11_paste_0 rfl (lv_at hl 1 rfl) ?_
      refine behI (runSP (As := [.int 1]) (rest := []) ⟨hx, hb, hml, hown, ht⟩ (pX11_isSlot l G cs h q 1) okS_RX11_290 ⟨by decide, by decide⟩ hK hP [] rfl hl.1 rfl (Nat.le_of_ble_eq_true rfl) dX11_paste_1 ⟨by decide, by decide⟩) hP hS (fun _ h => h) (fun H locs hP hS => ?_)
      refine lv_topi (fun v1 ev1 => ?_)
      obtain rfl : v1 = 1 := ev1.trans (by decide)
      refine lv_if_eq (tgt := 14) hx hb dX11_paste_4 (by decide) (fun c2 => False.elim (by revert c2; decide)) (fun c3 => ?_)
      refine lv_iload_n hx hb dX11_paste_7 rfl (lv_at hl 3 rfl) ?_
      refine behI (runSP (As := [.int a3]) (rest := []) ⟨hx, hb, hml, hown, ht⟩ (pX11_isSlot l G cs h q a3) okS_RX11_290 ⟨by decide, by decide⟩ hK hP [] rfl hl.1 rfl (Nat.le_of_ble_eq_true rfl) dX11_paste_8 ⟨by decide, by decide⟩) hP hS (fun _ h => h) (fun H locs hP hS => ?_)
      refine lv_topi (fun v4 ev4 => ?_)
      obtain rfl : v4 = 0 := ev4.trans (inF_n (by have z0 := leT hb2; have k0 : (4 : Int32).toInt = 4 := (by decide); have K0 : (0 : Int64).toInt = 0 := (by decide); have K1 : (3 : Int64).toInt = 3 := (by decide); omega))
      refine lv_if_ne (tgt := 17) hx hb dX11_paste_11 (by decide) (fun c5 => False.elim (by revert c5; decide)) (fun c6 => ?_)
      refine lv_bipush (v := (-2)) hx hb dX11_paste_14 (by decide) ?_
      exact retPi hx hb hr hlk hS dX11_paste_16 ((show _ = spk 4 _ (spk 4 a3 (-6) (-2)) (-2) by rw [spk_hi (by decide) hb2]; decide))
    · refine mkP (Qc := QPi (spk 4 1 (spk 4 0 (-6) (-2)) (-2))) (by decide) (by simp [lg_sl, Value.category]) ?_
      intro p e s m args below meth c ls hx hb hml hr hlk hown ht hK hP hS hl
      have hl : lv_has ls 7 [(0, .ref h), (1, .int 1), (2, .int a2), (3, .int 0), (4, .int a4), (5, .int a5)] := hl
      refine lv_iload_n hx hb dX11_paste_0 rfl (lv_at hl 1 rfl) ?_
      refine behI (runSP (As := [.int 1]) (rest := []) ⟨hx, hb, hml, hown, ht⟩ (pX11_isSlot l G cs h q 1) okS_RX11_290 ⟨by decide, by decide⟩ hK hP [] rfl hl.1 rfl (Nat.le_of_ble_eq_true rfl) dX11_paste_1 ⟨by decide, by decide⟩) hP hS (fun _ h => h) (fun H locs hP hS => ?_)
      refine lv_topi (fun v1 ev1 => ?_)
      obtain rfl : v1 = 1 := ev1.trans (by decide)
      refine lv_if_eq (tgt := 14) hx hb dX11_paste_4 (by decide) (fun c2 => False.elim (by revert c2; decide)) (fun c3 => ?_)
      refine lv_iload_n hx hb dX11_paste_7 rfl (lv_at hl 3 rfl) ?_
      refine behI (runSP (As := [.int 0]) (rest := []) ⟨hx, hb, hml, hown, ht⟩ (pX11_isSlot l G cs h q 0) okS_RX11_290 ⟨by decide, by decide⟩ hK hP [] rfl hl.1 rfl (Nat.le_of_ble_eq_true rfl) dX11_paste_8 ⟨by decide, by decide⟩) hP hS (fun _ h => h) (fun H locs hP hS => ?_)
      refine lv_topi (fun v4 ev4 => ?_)
      obtain rfl : v4 = 1 := ev4.trans (by decide)
      refine lv_if_ne (tgt := 17) hx hb dX11_paste_11 (by decide) (fun c6 => ?_) (fun c5 => False.elim (by revert c5; decide))
      refine lv_aload_n hx hb dX11_paste_17 rfl (lv_at hl 0 rfl) ?_
      refine getF hx hb ht hown hK hP iTX11 0 31 rfl rfl (by decide) fl_RX11_61 rfl dX11_paste_18 ?_
      refine lv_iload_n hx hb dX11_paste_21 rfl (lv_at hl 1 rfl) ?_
      refine va_iald hx hb hK.1 hP 1 0 rfl rfl (show ¬ (_ ∨ _) by decide) dX11_paste_22 ?_
      refine lv_topi (fun v7 ev7 => ?_)
      obtain rfl : v7 = (-1) := ev7.trans rfl
      refine lv_iconst (v := (-1)) hx hb dX11_paste_23 (by decide) ?_
      refine lv_icmp_eq (tgt := 37) hx hb dX11_paste_24 (by decide) (fun c9 => ?_) (fun c8 => False.elim (by revert c8; decide))
      refine lv_bipush (v := (-6)) hx hb dX11_paste_37 (by decide) ?_
      exact retPi hx hb hr hlk hS dX11_paste_39 (by decide)
    · refine mkP (Qc := QPi (spk 4 1 (spk 4 1 (-6) (-2)) (-2))) (by decide) (by simp [lg_sl, Value.category]) ?_
      intro p e s m args below meth c ls hx hb hml hr hlk hown ht hK hP hS hl
      have hl : lv_has ls 7 [(0, .ref h), (1, .int 1), (2, .int a2), (3, .int 1), (4, .int a4), (5, .int a5)] := hl
      refine lv_iload_n hx hb dX11_paste_0 rfl (lv_at hl 1 rfl) ?_
      refine behI (runSP (As := [.int 1]) (rest := []) ⟨hx, hb, hml, hown, ht⟩ (pX11_isSlot l G cs h q 1) okS_RX11_290 ⟨by decide, by decide⟩ hK hP [] rfl hl.1 rfl (Nat.le_of_ble_eq_true rfl) dX11_paste_1 ⟨by decide, by decide⟩) hP hS (fun _ h => h) (fun H locs hP hS => ?_)
      refine lv_topi (fun v1 ev1 => ?_)
      obtain rfl : v1 = 1 := ev1.trans (by decide)
      refine lv_if_eq (tgt := 14) hx hb dX11_paste_4 (by decide) (fun c2 => False.elim (by revert c2; decide)) (fun c3 => ?_)
      refine lv_iload_n hx hb dX11_paste_7 rfl (lv_at hl 3 rfl) ?_
      refine behI (runSP (As := [.int 1]) (rest := []) ⟨hx, hb, hml, hown, ht⟩ (pX11_isSlot l G cs h q 1) okS_RX11_290 ⟨by decide, by decide⟩ hK hP [] rfl hl.1 rfl (Nat.le_of_ble_eq_true rfl) dX11_paste_8 ⟨by decide, by decide⟩) hP hS (fun _ h => h) (fun H locs hP hS => ?_)
      refine lv_topi (fun v4 ev4 => ?_)
      obtain rfl : v4 = 1 := ev4.trans (by decide)
      refine lv_if_ne (tgt := 17) hx hb dX11_paste_11 (by decide) (fun c6 => ?_) (fun c5 => False.elim (by revert c5; decide))
      refine lv_aload_n hx hb dX11_paste_17 rfl (lv_at hl 0 rfl) ?_
      refine getF hx hb ht hown hK hP iTX11 0 31 rfl rfl (by decide) fl_RX11_61 rfl dX11_paste_18 ?_
      refine lv_iload_n hx hb dX11_paste_21 rfl (lv_at hl 1 rfl) ?_
      refine va_iald hx hb hK.1 hP 1 0 rfl rfl (show ¬ (_ ∨ _) by decide) dX11_paste_22 ?_
      refine lv_topi (fun v7 ev7 => ?_)
      obtain rfl : v7 = (-1) := ev7.trans rfl
      refine lv_iconst (v := (-1)) hx hb dX11_paste_23 (by decide) ?_
      refine lv_icmp_eq (tgt := 37) hx hb dX11_paste_24 (by decide) (fun c9 => ?_) (fun c8 => False.elim (by revert c8; decide))
      refine lv_bipush (v := (-6)) hx hb dX11_paste_37 (by decide) ?_
      exact retPi hx hb hr hlk hS dX11_paste_39 (by decide)
    · refine mkP (Qc := QPi (spk 4 1 (spk 4 2 (-6) (-2)) (-2))) (by decide) (by simp [lg_sl, Value.category]) ?_
      intro p e s m args below meth c ls hx hb hml hr hlk hown ht hK hP hS hl
      have hl : lv_has ls 7 [(0, .ref h), (1, .int 1), (2, .int a2), (3, .int 2), (4, .int a4), (5, .int a5)] := hl
      refine lv_iload_n hx hb dX11_paste_0 rfl (lv_at hl 1 rfl) ?_
      refine behI (runSP (As := [.int 1]) (rest := []) ⟨hx, hb, hml, hown, ht⟩ (pX11_isSlot l G cs h q 1) okS_RX11_290 ⟨by decide, by decide⟩ hK hP [] rfl hl.1 rfl (Nat.le_of_ble_eq_true rfl) dX11_paste_1 ⟨by decide, by decide⟩) hP hS (fun _ h => h) (fun H locs hP hS => ?_)
      refine lv_topi (fun v1 ev1 => ?_)
      obtain rfl : v1 = 1 := ev1.trans (by decide)
      refine lv_if_eq (tgt := 14) hx hb dX11_paste_4 (by decide) (fun c2 => False.elim (by revert c2; decide)) (fun c3 => ?_)
      refine lv_iload_n hx hb dX11_paste_7 rfl (lv_at hl 3 rfl) ?_
      refine behI (runSP (As := [.int 2]) (rest := []) ⟨hx, hb, hml, hown, ht⟩ (pX11_isSlot l G cs h q 2) okS_RX11_290 ⟨by decide, by decide⟩ hK hP [] rfl hl.1 rfl (Nat.le_of_ble_eq_true rfl) dX11_paste_8 ⟨by decide, by decide⟩) hP hS (fun _ h => h) (fun H locs hP hS => ?_)
      refine lv_topi (fun v4 ev4 => ?_)
      obtain rfl : v4 = 1 := ev4.trans (by decide)
      refine lv_if_ne (tgt := 17) hx hb dX11_paste_11 (by decide) (fun c6 => ?_) (fun c5 => False.elim (by revert c5; decide))
      refine lv_aload_n hx hb dX11_paste_17 rfl (lv_at hl 0 rfl) ?_
      refine getF hx hb ht hown hK hP iTX11 0 31 rfl rfl (by decide) fl_RX11_61 rfl dX11_paste_18 ?_
      refine lv_iload_n hx hb dX11_paste_21 rfl (lv_at hl 1 rfl) ?_
      refine va_iald hx hb hK.1 hP 1 0 rfl rfl (show ¬ (_ ∨ _) by decide) dX11_paste_22 ?_
      refine lv_topi (fun v7 ev7 => ?_)
      obtain rfl : v7 = (-1) := ev7.trans rfl
      refine lv_iconst (v := (-1)) hx hb dX11_paste_23 (by decide) ?_
      refine lv_icmp_eq (tgt := 37) hx hb dX11_paste_24 (by decide) (fun c9 => ?_) (fun c8 => False.elim (by revert c8; decide))
      refine lv_bipush (v := (-6)) hx hb dX11_paste_37 (by decide) ?_
      exact retPi hx hb hr hlk hS dX11_paste_39 (by decide)
    · refine mkP (Qc := QPi (spk 4 1 (spk 4 3 (-6) (-2)) (-2))) (by decide) (by simp [lg_sl, Value.category]) ?_
      intro p e s m args below meth c ls hx hb hml hr hlk hown ht hK hP hS hl
      have hl : lv_has ls 7 [(0, .ref h), (1, .int 1), (2, .int a2), (3, .int 3), (4, .int a4), (5, .int a5)] := hl
      refine lv_iload_n hx hb dX11_paste_0 rfl (lv_at hl 1 rfl) ?_
      refine behI (runSP (As := [.int 1]) (rest := []) ⟨hx, hb, hml, hown, ht⟩ (pX11_isSlot l G cs h q 1) okS_RX11_290 ⟨by decide, by decide⟩ hK hP [] rfl hl.1 rfl (Nat.le_of_ble_eq_true rfl) dX11_paste_1 ⟨by decide, by decide⟩) hP hS (fun _ h => h) (fun H locs hP hS => ?_)
      refine lv_topi (fun v1 ev1 => ?_)
      obtain rfl : v1 = 1 := ev1.trans (by decide)
      refine lv_if_eq (tgt := 14) hx hb dX11_paste_4 (by decide) (fun c2 => False.elim (by revert c2; decide)) (fun c3 => ?_)
      refine lv_iload_n hx hb dX11_paste_7 rfl (lv_at hl 3 rfl) ?_
      refine behI (runSP (As := [.int 3]) (rest := []) ⟨hx, hb, hml, hown, ht⟩ (pX11_isSlot l G cs h q 3) okS_RX11_290 ⟨by decide, by decide⟩ hK hP [] rfl hl.1 rfl (Nat.le_of_ble_eq_true rfl) dX11_paste_8 ⟨by decide, by decide⟩) hP hS (fun _ h => h) (fun H locs hP hS => ?_)
      refine lv_topi (fun v4 ev4 => ?_)
      obtain rfl : v4 = 1 := ev4.trans (by decide)
      refine lv_if_ne (tgt := 17) hx hb dX11_paste_11 (by decide) (fun c6 => ?_) (fun c5 => False.elim (by revert c5; decide))
      refine lv_aload_n hx hb dX11_paste_17 rfl (lv_at hl 0 rfl) ?_
      refine getF hx hb ht hown hK hP iTX11 0 31 rfl rfl (by decide) fl_RX11_61 rfl dX11_paste_18 ?_
      refine lv_iload_n hx hb dX11_paste_21 rfl (lv_at hl 1 rfl) ?_
      refine va_iald hx hb hK.1 hP 1 0 rfl rfl (show ¬ (_ ∨ _) by decide) dX11_paste_22 ?_
      refine lv_topi (fun v7 ev7 => ?_)
      obtain rfl : v7 = (-1) := ev7.trans rfl
      refine lv_iconst (v := (-1)) hx hb dX11_paste_23 (by decide) ?_
      refine lv_icmp_eq (tgt := 37) hx hb dX11_paste_24 (by decide) (fun c9 => ?_) (fun c8 => False.elim (by revert c8; decide))
      refine lv_bipush (v := (-6)) hx hb dX11_paste_37 (by decide) ?_
      exact retPi hx hb hr hlk hS dX11_paste_39 (by decide)
  · rcases cs4 a3 with hn2 | hb2 | rfl | rfl | rfl | rfl
    · refine mkP (Qc := QPi (spk 4 2 (spk 4 a3 (-6) (-2)) (-2))) (by decide) (by simp [lg_sl, Value.category]) ?_
      intro p e s m args below meth c ls hx hb hml hr hlk hown ht hK hP hS hl
      have hl : lv_has ls 7 [(0, .ref h), (1, .int 2), (2, .int a2), (3, .int a3), (4, .int a4), (5, .int a5)] := hl
      refine lv_iload_n hx hb dX11_paste_0 rfl (lv_at hl 1 rfl) ?_
      refine behI (runSP (As := [.int 2]) (rest := []) ⟨hx, hb, hml, hown, ht⟩ (pX11_isSlot l G cs h q 2) okS_RX11_290 ⟨by decide, by decide⟩ hK hP [] rfl hl.1 rfl (Nat.le_of_ble_eq_true rfl) dX11_paste_1 ⟨by decide, by decide⟩) hP hS (fun _ h => h) (fun H locs hP hS => ?_)
      refine lv_topi (fun v1 ev1 => ?_)
      obtain rfl : v1 = 1 := ev1.trans (by decide)
      refine lv_if_eq (tgt := 14) hx hb dX11_paste_4 (by decide) (fun c2 => False.elim (by revert c2; decide)) (fun c3 => ?_)
      refine lv_iload_n hx hb dX11_paste_7 rfl (lv_at hl 3 rfl) ?_
      refine behI (runSP (As := [.int a3]) (rest := []) ⟨hx, hb, hml, hown, ht⟩ (pX11_isSlot l G cs h q a3) okS_RX11_290 ⟨by decide, by decide⟩ hK hP [] rfl hl.1 rfl (Nat.le_of_ble_eq_true rfl) dX11_paste_8 ⟨by decide, by decide⟩) hP hS (fun _ h => h) (fun H locs hP hS => ?_)
      refine lv_topi (fun v4 ev4 => ?_)
      obtain rfl : v4 = 0 := ev4.trans (inF_n (by have z0 := ltT hn2; have k0 : (0 : Int32).toInt = 0 := (by decide); have K0 : (0 : Int64).toInt = 0 := (by decide); have K1 : (3 : Int64).toInt = 3 := (by decide); omega))
      refine lv_if_ne (tgt := 17) hx hb dX11_paste_11 (by decide) (fun c5 => False.elim (by revert c5; decide)) (fun c6 => ?_)
      refine lv_bipush (v := (-2)) hx hb dX11_paste_14 (by decide) ?_
      exact retPi hx hb hr hlk hS dX11_paste_16 ((show _ = spk 4 _ (spk 4 a3 (-6) (-2)) (-2) by rw [spk_lo hn2]; decide))
    · refine mkP (Qc := QPi (spk 4 2 (spk 4 a3 (-6) (-2)) (-2))) (by decide) (by simp [lg_sl, Value.category]) ?_
      intro p e s m args below meth c ls hx hb hml hr hlk hown ht hK hP hS hl
      have hl : lv_has ls 7 [(0, .ref h), (1, .int 2), (2, .int a2), (3, .int a3), (4, .int a4), (5, .int a5)] := hl
      refine lv_iload_n hx hb dX11_paste_0 rfl (lv_at hl 1 rfl) ?_
      refine behI (runSP (As := [.int 2]) (rest := []) ⟨hx, hb, hml, hown, ht⟩ (pX11_isSlot l G cs h q 2) okS_RX11_290 ⟨by decide, by decide⟩ hK hP [] rfl hl.1 rfl (Nat.le_of_ble_eq_true rfl) dX11_paste_1 ⟨by decide, by decide⟩) hP hS (fun _ h => h) (fun H locs hP hS => ?_)
      refine lv_topi (fun v1 ev1 => ?_)
      obtain rfl : v1 = 1 := ev1.trans (by decide)
      refine lv_if_eq (tgt := 14) hx hb dX11_paste_4 (by decide) (fun c2 => False.elim (by revert c2; decide)) (fun c3 => ?_)
      refine lv_iload_n hx hb dX11_paste_7 rfl (lv_at hl 3 rfl) ?_
      refine behI (runSP (As := [.int a3]) (rest := []) ⟨hx, hb, hml, hown, ht⟩ (pX11_isSlot l G cs h q a3) okS_RX11_290 ⟨by decide, by decide⟩ hK hP [] rfl hl.1 rfl (Nat.le_of_ble_eq_true rfl) dX11_paste_8 ⟨by decide, by decide⟩) hP hS (fun _ h => h) (fun H locs hP hS => ?_)
      refine lv_topi (fun v4 ev4 => ?_)
      obtain rfl : v4 = 0 := ev4.trans (inF_n (by have z0 := leT hb2; have k0 : (4 : Int32).toInt = 4 := (by decide); have K0 : (0 : Int64).toInt = 0 := (by decide); have K1 : (3 : Int64).toInt = 3 := (by decide); omega))
      refine lv_if_ne (tgt := 17) hx hb dX11_paste_11 (by decide) (fun c5 => False.elim (by revert c5; decide)) (fun c6 => ?_)
      refine lv_bipush (v := (-2)) hx hb dX11_paste_14 (by decide) ?_
      exact retPi hx hb hr hlk hS dX11_paste_16 ((show _ = spk 4 _ (spk 4 a3 (-6) (-2)) (-2) by rw [spk_hi (by decide) hb2]; decide))
    · refine mkP (Qc := QPi (spk 4 2 (spk 4 0 (-6) (-2)) (-2))) (by decide) (by simp [lg_sl, Value.category]) ?_
      intro p e s m args below meth c ls hx hb hml hr hlk hown ht hK hP hS hl
      have hl : lv_has ls 7 [(0, .ref h), (1, .int 2), (2, .int a2), (3, .int 0), (4, .int a4), (5, .int a5)] := hl
      refine lv_iload_n hx hb dX11_paste_0 rfl (lv_at hl 1 rfl) ?_
      refine behI (runSP (As := [.int 2]) (rest := []) ⟨hx, hb, hml, hown, ht⟩ (pX11_isSlot l G cs h q 2) okS_RX11_290 ⟨by decide, by decide⟩ hK hP [] rfl hl.1 rfl (Nat.le_of_ble_eq_true rfl) dX11_paste_1 ⟨by decide, by decide⟩) hP hS (fun _ h => h) (fun H locs hP hS => ?_)
      refine lv_topi (fun v1 ev1 => ?_)
      obtain rfl : v1 = 1 := ev1.trans (by decide)
      refine lv_if_eq (tgt := 14) hx hb dX11_paste_4 (by decide) (fun c2 => False.elim (by revert c2; decide)) (fun c3 => ?_)
      refine lv_iload_n hx hb dX11_paste_7 rfl (lv_at hl 3 rfl) ?_
      refine behI (runSP (As := [.int 0]) (rest := []) ⟨hx, hb, hml, hown, ht⟩ (pX11_isSlot l G cs h q 0) okS_RX11_290 ⟨by decide, by decide⟩ hK hP [] rfl hl.1 rfl (Nat.le_of_ble_eq_true rfl) dX11_paste_8 ⟨by decide, by decide⟩) hP hS (fun _ h => h) (fun H locs hP hS => ?_)
      refine lv_topi (fun v4 ev4 => ?_)
      obtain rfl : v4 = 1 := ev4.trans (by decide)
      refine lv_if_ne (tgt := 17) hx hb dX11_paste_11 (by decide) (fun c6 => ?_) (fun c5 => False.elim (by revert c5; decide))
      refine lv_aload_n hx hb dX11_paste_17 rfl (lv_at hl 0 rfl) ?_
      refine getF hx hb ht hown hK hP iTX11 0 31 rfl rfl (by decide) fl_RX11_61 rfl dX11_paste_18 ?_
      refine lv_iload_n hx hb dX11_paste_21 rfl (lv_at hl 1 rfl) ?_
      refine va_iald hx hb hK.1 hP 1 0 rfl rfl (show ¬ (_ ∨ _) by decide) dX11_paste_22 ?_
      refine lv_topi (fun v7 ev7 => ?_)
      obtain rfl : v7 = (-1) := ev7.trans rfl
      refine lv_iconst (v := (-1)) hx hb dX11_paste_23 (by decide) ?_
      refine lv_icmp_eq (tgt := 37) hx hb dX11_paste_24 (by decide) (fun c9 => ?_) (fun c8 => False.elim (by revert c8; decide))
      refine lv_bipush (v := (-6)) hx hb dX11_paste_37 (by decide) ?_
      exact retPi hx hb hr hlk hS dX11_paste_39 (by decide)
    · refine mkP (Qc := QPi (spk 4 2 (spk 4 1 (-6) (-2)) (-2))) (by decide) (by simp [lg_sl, Value.category]) ?_
      intro p e s m args below meth c ls hx hb hml hr hlk hown ht hK hP hS hl
      have hl : lv_has ls 7 [(0, .ref h), (1, .int 2), (2, .int a2), (3, .int 1), (4, .int a4), (5, .int a5)] := hl
      refine lv_iload_n hx hb dX11_paste_0 rfl (lv_at hl 1 rfl) ?_
      refine behI (runSP (As := [.int 2]) (rest := []) ⟨hx, hb, hml, hown, ht⟩ (pX11_isSlot l G cs h q 2) okS_RX11_290 ⟨by decide, by decide⟩ hK hP [] rfl hl.1 rfl (Nat.le_of_ble_eq_true rfl) dX11_paste_1 ⟨by decide, by decide⟩) hP hS (fun _ h => h) (fun H locs hP hS => ?_)
      refine lv_topi (fun v1 ev1 => ?_)
      obtain rfl : v1 = 1 := ev1.trans (by decide)
      refine lv_if_eq (tgt := 14) hx hb dX11_paste_4 (by decide) (fun c2 => False.elim (by revert c2; decide)) (fun c3 => ?_)
      refine lv_iload_n hx hb dX11_paste_7 rfl (lv_at hl 3 rfl) ?_
      refine behI (runSP (As := [.int 1]) (rest := []) ⟨hx, hb, hml, hown, ht⟩ (pX11_isSlot l G cs h q 1) okS_RX11_290 ⟨by decide, by decide⟩ hK hP [] rfl hl.1 rfl (Nat.le_of_ble_eq_true rfl) dX11_paste_8 ⟨by decide, by decide⟩) hP hS (fun _ h => h) (fun H locs hP hS => ?_)
      refine lv_topi (fun v4 ev4 => ?_)
      obtain rfl : v4 = 1 := ev4.trans (by decide)
      refine lv_if_ne (tgt := 17) hx hb dX11_paste_11 (by decide) (fun c6 => ?_) (fun c5 => False.elim (by revert c5; decide))
      refine lv_aload_n hx hb dX11_paste_17 rfl (lv_at hl 0 rfl) ?_
      refine getF hx hb ht hown hK hP iTX11 0 31 rfl rfl (by decide) fl_RX11_61 rfl dX11_paste_18 ?_
      refine lv_iload_n hx hb dX11_paste_21 rfl (lv_at hl 1 rfl) ?_
      refine va_iald hx hb hK.1 hP 1 0 rfl rfl (show ¬ (_ ∨ _) by decide) dX11_paste_22 ?_
      refine lv_topi (fun v7 ev7 => ?_)
      obtain rfl : v7 = (-1) := ev7.trans rfl
      refine lv_iconst (v := (-1)) hx hb dX11_paste_23 (by decide) ?_
      refine lv_icmp_eq (tgt := 37) hx hb dX11_paste_24 (by decide) (fun c9 => ?_) (fun c8 => False.elim (by revert c8; decide))
      refine lv_bipush (v := (-6)) hx hb dX11_paste_37 (by decide) ?_
      exact retPi hx hb hr hlk hS dX11_paste_39 (by decide)
    · refine mkP (Qc := QPi (spk 4 2 (spk 4 2 (-6) (-2)) (-2))) (by decide) (by simp [lg_sl, Value.category]) ?_
      intro p e s m args below meth c ls hx hb hml hr hlk hown ht hK hP hS hl
      have hl : lv_has ls 7 [(0, .ref h), (1, .int 2), (2, .int a2), (3, .int 2), (4, .int a4), (5, .int a5)] := hl
      refine lv_iload_n hx hb dX11_paste_0 rfl (lv_at hl 1 rfl) ?_
      refine behI (runSP (As := [.int 2]) (rest := []) ⟨hx, hb, hml, hown, ht⟩ (pX11_isSlot l G cs h q 2) okS_RX11_290 ⟨by decide, by decide⟩ hK hP [] rfl hl.1 rfl (Nat.le_of_ble_eq_true rfl) dX11_paste_1 ⟨by decide, by decide⟩) hP hS (fun _ h => h) (fun H locs hP hS => ?_)
      refine lv_topi (fun v1 ev1 => ?_)
      obtain rfl : v1 = 1 := ev1.trans (by decide)
      refine lv_if_eq (tgt := 14) hx hb dX11_paste_4 (by decide) (fun c2 => False.elim (by revert c2; decide)) (fun c3 => ?_)
      refine lv_iload_n hx hb dX11_paste_7 rfl (lv_at hl 3 rfl) ?_
      refine behI (runSP (As := [.int 2]) (rest := []) ⟨hx, hb, hml, hown, ht⟩ (pX11_isSlot l G cs h q 2) okS_RX11_290 ⟨by decide, by decide⟩ hK hP [] rfl hl.1 rfl (Nat.le_of_ble_eq_true rfl) dX11_paste_8 ⟨by decide, by decide⟩) hP hS (fun _ h => h) (fun H locs hP hS => ?_)
      refine lv_topi (fun v4 ev4 => ?_)
      obtain rfl : v4 = 1 := ev4.trans (by decide)
      refine lv_if_ne (tgt := 17) hx hb dX11_paste_11 (by decide) (fun c6 => ?_) (fun c5 => False.elim (by revert c5; decide))
      refine lv_aload_n hx hb dX11_paste_17 rfl (lv_at hl 0 rfl) ?_
      refine getF hx hb ht hown hK hP iTX11 0 31 rfl rfl (by decide) fl_RX11_61 rfl dX11_paste_18 ?_
      refine lv_iload_n hx hb dX11_paste_21 rfl (lv_at hl 1 rfl) ?_
      refine va_iald hx hb hK.1 hP 1 0 rfl rfl (show ¬ (_ ∨ _) by decide) dX11_paste_22 ?_
      refine lv_topi (fun v7 ev7 => ?_)
      obtain rfl : v7 = (-1) := ev7.trans rfl
      refine lv_iconst (v := (-1)) hx hb dX11_paste_23 (by decide) ?_
      refine lv_icmp_eq (tgt := 37) hx hb dX11_paste_24 (by decide) (fun c9 => ?_) (fun c8 => False.elim (by revert c8; decide))
      refine lv_bipush (v := (-6)) hx hb dX11_paste_37 (by decide) ?_
      exact retPi hx hb hr hlk hS dX11_paste_39 (by decide)
    · refine mkP (Qc := QPi (spk 4 2 (spk 4 3 (-6) (-2)) (-2))) (by decide) (by simp [lg_sl, Value.category]) ?_
      intro p e s m args below meth c ls hx hb hml hr hlk hown ht hK hP hS hl
      have hl : lv_has ls 7 [(0, .ref h), (1, .int 2), (2, .int a2), (3, .int 3), (4, .int a4), (5, .int a5)] := hl
      refine lv_iload_n hx hb dX11_paste_0 rfl (lv_at hl 1 rfl) ?_
      refine behI (runSP (As := [.int 2]) (rest := []) ⟨hx, hb, hml, hown, ht⟩ (pX11_isSlot l G cs h q 2) okS_RX11_290 ⟨by decide, by decide⟩ hK hP [] rfl hl.1 rfl (Nat.le_of_ble_eq_true rfl) dX11_paste_1 ⟨by decide, by decide⟩) hP hS (fun _ h => h) (fun H locs hP hS => ?_)
      refine lv_topi (fun v1 ev1 => ?_)
      obtain rfl : v1 = 1 := ev1.trans (by decide)
      refine lv_if_eq (tgt := 14) hx hb dX11_paste_4 (by decide) (fun c2 => False.elim (by revert c2; decide)) (fun c3 => ?_)
      refine lv_iload_n hx hb dX11_paste_7 rfl (lv_at hl 3 rfl) ?_
      refine behI (runSP (As := [.int 3]) (rest := []) ⟨hx, hb, hml, hown, ht⟩ (pX11_isSlot l G cs h q 3) okS_RX11_290 ⟨by decide, by decide⟩ hK hP [] rfl hl.1 rfl (Nat.le_of_ble_eq_true rfl) dX11_paste_8 ⟨by decide, by decide⟩) hP hS (fun _ h => h) (fun H locs hP hS => ?_)
      refine lv_topi (fun v4 ev4 => ?_)
      obtain rfl : v4 = 1 := ev4.trans (by decide)
      refine lv_if_ne (tgt := 17) hx hb dX11_paste_11 (by decide) (fun c6 => ?_) (fun c5 => False.elim (by revert c5; decide))
      refine lv_aload_n hx hb dX11_paste_17 rfl (lv_at hl 0 rfl) ?_
      refine getF hx hb ht hown hK hP iTX11 0 31 rfl rfl (by decide) fl_RX11_61 rfl dX11_paste_18 ?_
      refine lv_iload_n hx hb dX11_paste_21 rfl (lv_at hl 1 rfl) ?_
      refine va_iald hx hb hK.1 hP 1 0 rfl rfl (show ¬ (_ ∨ _) by decide) dX11_paste_22 ?_
      refine lv_topi (fun v7 ev7 => ?_)
      obtain rfl : v7 = (-1) := ev7.trans rfl
      refine lv_iconst (v := (-1)) hx hb dX11_paste_23 (by decide) ?_
      refine lv_icmp_eq (tgt := 37) hx hb dX11_paste_24 (by decide) (fun c9 => ?_) (fun c8 => False.elim (by revert c8; decide))
      refine lv_bipush (v := (-6)) hx hb dX11_paste_37 (by decide) ?_
      exact retPi hx hb hr hlk hS dX11_paste_39 (by decide)
  · rcases cs4 a3 with hn2 | hb2 | rfl | rfl | rfl | rfl
    · refine mkP (Qc := QPi (spk 4 3 (spk 4 a3 (-6) (-2)) (-2))) (by decide) (by simp [lg_sl, Value.category]) ?_
      intro p e s m args below meth c ls hx hb hml hr hlk hown ht hK hP hS hl
      have hl : lv_has ls 7 [(0, .ref h), (1, .int 3), (2, .int a2), (3, .int a3), (4, .int a4), (5, .int a5)] := hl
      refine lv_iload_n hx hb dX11_paste_0 rfl (lv_at hl 1 rfl) ?_
      refine behI (runSP (As := [.int 3]) (rest := []) ⟨hx, hb, hml, hown, ht⟩ (pX11_isSlot l G cs h q 3) okS_RX11_290 ⟨by decide, by decide⟩ hK hP [] rfl hl.1 rfl (Nat.le_of_ble_eq_true rfl) dX11_paste_1 ⟨by decide, by decide⟩) hP hS (fun _ h => h) (fun H locs hP hS => ?_)
      refine lv_topi (fun v1 ev1 => ?_)
      obtain rfl : v1 = 1 := ev1.trans (by decide)
      refine lv_if_eq (tgt := 14) hx hb dX11_paste_4 (by decide) (fun c2 => False.elim (by revert c2; decide)) (fun c3 => ?_)
      refine lv_iload_n hx hb dX11_paste_7 rfl (lv_at hl 3 rfl) ?_
      refine behI (runSP (As := [.int a3]) (rest := []) ⟨hx, hb, hml, hown, ht⟩ (pX11_isSlot l G cs h q a3) okS_RX11_290 ⟨by decide, by decide⟩ hK hP [] rfl hl.1 rfl (Nat.le_of_ble_eq_true rfl) dX11_paste_8 ⟨by decide, by decide⟩) hP hS (fun _ h => h) (fun H locs hP hS => ?_)
      refine lv_topi (fun v4 ev4 => ?_)
      obtain rfl : v4 = 0 := ev4.trans (inF_n (by have z0 := ltT hn2; have k0 : (0 : Int32).toInt = 0 := (by decide); have K0 : (0 : Int64).toInt = 0 := (by decide); have K1 : (3 : Int64).toInt = 3 := (by decide); omega))
      refine lv_if_ne (tgt := 17) hx hb dX11_paste_11 (by decide) (fun c5 => False.elim (by revert c5; decide)) (fun c6 => ?_)
      refine lv_bipush (v := (-2)) hx hb dX11_paste_14 (by decide) ?_
      exact retPi hx hb hr hlk hS dX11_paste_16 ((show _ = spk 4 _ (spk 4 a3 (-6) (-2)) (-2) by rw [spk_lo hn2]; decide))
    · refine mkP (Qc := QPi (spk 4 3 (spk 4 a3 (-6) (-2)) (-2))) (by decide) (by simp [lg_sl, Value.category]) ?_
      intro p e s m args below meth c ls hx hb hml hr hlk hown ht hK hP hS hl
      have hl : lv_has ls 7 [(0, .ref h), (1, .int 3), (2, .int a2), (3, .int a3), (4, .int a4), (5, .int a5)] := hl
      refine lv_iload_n hx hb dX11_paste_0 rfl (lv_at hl 1 rfl) ?_
      refine behI (runSP (As := [.int 3]) (rest := []) ⟨hx, hb, hml, hown, ht⟩ (pX11_isSlot l G cs h q 3) okS_RX11_290 ⟨by decide, by decide⟩ hK hP [] rfl hl.1 rfl (Nat.le_of_ble_eq_true rfl) dX11_paste_1 ⟨by decide, by decide⟩) hP hS (fun _ h => h) (fun H locs hP hS => ?_)
      refine lv_topi (fun v1 ev1 => ?_)
      obtain rfl : v1 = 1 := ev1.trans (by decide)
      refine lv_if_eq (tgt := 14) hx hb dX11_paste_4 (by decide) (fun c2 => False.elim (by revert c2; decide)) (fun c3 => ?_)
      refine lv_iload_n hx hb dX11_paste_7 rfl (lv_at hl 3 rfl) ?_
      refine behI (runSP (As := [.int a3]) (rest := []) ⟨hx, hb, hml, hown, ht⟩ (pX11_isSlot l G cs h q a3) okS_RX11_290 ⟨by decide, by decide⟩ hK hP [] rfl hl.1 rfl (Nat.le_of_ble_eq_true rfl) dX11_paste_8 ⟨by decide, by decide⟩) hP hS (fun _ h => h) (fun H locs hP hS => ?_)
      refine lv_topi (fun v4 ev4 => ?_)
      obtain rfl : v4 = 0 := ev4.trans (inF_n (by have z0 := leT hb2; have k0 : (4 : Int32).toInt = 4 := (by decide); have K0 : (0 : Int64).toInt = 0 := (by decide); have K1 : (3 : Int64).toInt = 3 := (by decide); omega))
      refine lv_if_ne (tgt := 17) hx hb dX11_paste_11 (by decide) (fun c5 => False.elim (by revert c5; decide)) (fun c6 => ?_)
      refine lv_bipush (v := (-2)) hx hb dX11_paste_14 (by decide) ?_
      exact retPi hx hb hr hlk hS dX11_paste_16 ((show _ = spk 4 _ (spk 4 a3 (-6) (-2)) (-2) by rw [spk_hi (by decide) hb2]; decide))
    · refine mkP (Qc := QPi (spk 4 3 (spk 4 0 (-6) (-2)) (-2))) (by decide) (by simp [lg_sl, Value.category]) ?_
      intro p e s m args below meth c ls hx hb hml hr hlk hown ht hK hP hS hl
      have hl : lv_has ls 7 [(0, .ref h), (1, .int 3), (2, .int a2), (3, .int 0), (4, .int a4), (5, .int a5)] := hl
      refine lv_iload_n hx hb dX11_paste_0 rfl (lv_at hl 1 rfl) ?_
      refine behI (runSP (As := [.int 3]) (rest := []) ⟨hx, hb, hml, hown, ht⟩ (pX11_isSlot l G cs h q 3) okS_RX11_290 ⟨by decide, by decide⟩ hK hP [] rfl hl.1 rfl (Nat.le_of_ble_eq_true rfl) dX11_paste_1 ⟨by decide, by decide⟩) hP hS (fun _ h => h) (fun H locs hP hS => ?_)
      refine lv_topi (fun v1 ev1 => ?_)
      obtain rfl : v1 = 1 := ev1.trans (by decide)
      refine lv_if_eq (tgt := 14) hx hb dX11_paste_4 (by decide) (fun c2 => False.elim (by revert c2; decide)) (fun c3 => ?_)
      refine lv_iload_n hx hb dX11_paste_7 rfl (lv_at hl 3 rfl) ?_
      refine behI (runSP (As := [.int 0]) (rest := []) ⟨hx, hb, hml, hown, ht⟩ (pX11_isSlot l G cs h q 0) okS_RX11_290 ⟨by decide, by decide⟩ hK hP [] rfl hl.1 rfl (Nat.le_of_ble_eq_true rfl) dX11_paste_8 ⟨by decide, by decide⟩) hP hS (fun _ h => h) (fun H locs hP hS => ?_)
      refine lv_topi (fun v4 ev4 => ?_)
      obtain rfl : v4 = 1 := ev4.trans (by decide)
      refine lv_if_ne (tgt := 17) hx hb dX11_paste_11 (by decide) (fun c6 => ?_) (fun c5 => False.elim (by revert c5; decide))
      refine lv_aload_n hx hb dX11_paste_17 rfl (lv_at hl 0 rfl) ?_
      refine getF hx hb ht hown hK hP iTX11 0 31 rfl rfl (by decide) fl_RX11_61 rfl dX11_paste_18 ?_
      refine lv_iload_n hx hb dX11_paste_21 rfl (lv_at hl 1 rfl) ?_
      refine va_iald hx hb hK.1 hP 1 0 rfl rfl (show ¬ (_ ∨ _) by decide) dX11_paste_22 ?_
      refine lv_topi (fun v7 ev7 => ?_)
      obtain rfl : v7 = (-1) := ev7.trans rfl
      refine lv_iconst (v := (-1)) hx hb dX11_paste_23 (by decide) ?_
      refine lv_icmp_eq (tgt := 37) hx hb dX11_paste_24 (by decide) (fun c9 => ?_) (fun c8 => False.elim (by revert c8; decide))
      refine lv_bipush (v := (-6)) hx hb dX11_paste_37 (by decide) ?_
      exact retPi hx hb hr hlk hS dX11_paste_39 (by decide)
    · refine mkP (Qc := QPi (spk 4 3 (spk 4 1 (-6) (-2)) (-2))) (by decide) (by simp [lg_sl, Value.category]) ?_
      intro p e s m args below meth c ls hx hb hml hr hlk hown ht hK hP hS hl
      have hl : lv_has ls 7 [(0, .ref h), (1, .int 3), (2, .int a2), (3, .int 1), (4, .int a4), (5, .int a5)] := hl
      refine lv_iload_n hx hb dX11_paste_0 rfl (lv_at hl 1 rfl) ?_
      refine behI (runSP (As := [.int 3]) (rest := []) ⟨hx, hb, hml, hown, ht⟩ (pX11_isSlot l G cs h q 3) okS_RX11_290 ⟨by decide, by decide⟩ hK hP [] rfl hl.1 rfl (Nat.le_of_ble_eq_true rfl) dX11_paste_1 ⟨by decide, by decide⟩) hP hS (fun _ h => h) (fun H locs hP hS => ?_)
      refine lv_topi (fun v1 ev1 => ?_)
      obtain rfl : v1 = 1 := ev1.trans (by decide)
      refine lv_if_eq (tgt := 14) hx hb dX11_paste_4 (by decide) (fun c2 => False.elim (by revert c2; decide)) (fun c3 => ?_)
      refine lv_iload_n hx hb dX11_paste_7 rfl (lv_at hl 3 rfl) ?_
      refine behI (runSP (As := [.int 1]) (rest := []) ⟨hx, hb, hml, hown, ht⟩ (pX11_isSlot l G cs h q 1) okS_RX11_290 ⟨by decide, by decide⟩ hK hP [] rfl hl.1 rfl (Nat.le_of_ble_eq_true rfl) dX11_paste_8 ⟨by decide, by decide⟩) hP hS (fun _ h => h) (fun H locs hP hS => ?_)
      refine lv_topi (fun v4 ev4 => ?_)
      obtain rfl : v4 = 1 := ev4.trans (by decide)
      refine lv_if_ne (tgt := 17) hx hb dX11_paste_11 (by decide) (fun c6 => ?_) (fun c5 => False.elim (by revert c5; decide))
      refine lv_aload_n hx hb dX11_paste_17 rfl (lv_at hl 0 rfl) ?_
      refine getF hx hb ht hown hK hP iTX11 0 31 rfl rfl (by decide) fl_RX11_61 rfl dX11_paste_18 ?_
      refine lv_iload_n hx hb dX11_paste_21 rfl (lv_at hl 1 rfl) ?_
      refine va_iald hx hb hK.1 hP 1 0 rfl rfl (show ¬ (_ ∨ _) by decide) dX11_paste_22 ?_
      refine lv_topi (fun v7 ev7 => ?_)
      obtain rfl : v7 = (-1) := ev7.trans rfl
      refine lv_iconst (v := (-1)) hx hb dX11_paste_23 (by decide) ?_
      refine lv_icmp_eq (tgt := 37) hx hb dX11_paste_24 (by decide) (fun c9 => ?_) (fun c8 => False.elim (by revert c8; decide))
      refine lv_bipush (v := (-6)) hx hb dX11_paste_37 (by decide) ?_
      exact retPi hx hb hr hlk hS dX11_paste_39 (by decide)
    · refine mkP (Qc := QPi (spk 4 3 (spk 4 2 (-6) (-2)) (-2))) (by decide) (by simp [lg_sl, Value.category]) ?_
      intro p e s m args below meth c ls hx hb hml hr hlk hown ht hK hP hS hl
      have hl : lv_has ls 7 [(0, .ref h), (1, .int 3), (2, .int a2), (3, .int 2), (4, .int a4), (5, .int a5)] := hl
      refine lv_iload_n hx hb dX11_paste_0 rfl (lv_at hl 1 rfl) ?_
      refine behI (runSP (As := [.int 3]) (rest := []) ⟨hx, hb, hml, hown, ht⟩ (pX11_isSlot l G cs h q 3) okS_RX11_290 ⟨by decide, by decide⟩ hK hP [] rfl hl.1 rfl (Nat.le_of_ble_eq_true rfl) dX11_paste_1 ⟨by decide, by decide⟩) hP hS (fun _ h => h) (fun H locs hP hS => ?_)
      refine lv_topi (fun v1 ev1 => ?_)
      obtain rfl : v1 = 1 := ev1.trans (by decide)
      refine lv_if_eq (tgt := 14) hx hb dX11_paste_4 (by decide) (fun c2 => False.elim (by revert c2; decide)) (fun c3 => ?_)
      refine lv_iload_n hx hb dX11_paste_7 rfl (lv_at hl 3 rfl) ?_
      refine behI (runSP (As := [.int 2]) (rest := []) ⟨hx, hb, hml, hown, ht⟩ (pX11_isSlot l G cs h q 2) okS_RX11_290 ⟨by decide, by decide⟩ hK hP [] rfl hl.1 rfl (Nat.le_of_ble_eq_true rfl) dX11_paste_8 ⟨by decide, by decide⟩) hP hS (fun _ h => h) (fun H locs hP hS => ?_)
      refine lv_topi (fun v4 ev4 => ?_)
      obtain rfl : v4 = 1 := ev4.trans (by decide)
      refine lv_if_ne (tgt := 17) hx hb dX11_paste_11 (by decide) (fun c6 => ?_) (fun c5 => False.elim (by revert c5; decide))
      refine lv_aload_n hx hb dX11_paste_17 rfl (lv_at hl 0 rfl) ?_
      refine getF hx hb ht hown hK hP iTX11 0 31 rfl rfl (by decide) fl_RX11_61 rfl dX11_paste_18 ?_
      refine lv_iload_n hx hb dX11_paste_21 rfl (lv_at hl 1 rfl) ?_
      refine va_iald hx hb hK.1 hP 1 0 rfl rfl (show ¬ (_ ∨ _) by decide) dX11_paste_22 ?_
      refine lv_topi (fun v7 ev7 => ?_)
      obtain rfl : v7 = (-1) := ev7.trans rfl
      refine lv_iconst (v := (-1)) hx hb dX11_paste_23 (by decide) ?_
      refine lv_icmp_eq (tgt := 37) hx hb dX11_paste_24 (by decide) (fun c9 => ?_) (fun c8 => False.elim (by revert c8; decide))
      refine lv_bipush (v := (-6)) hx hb dX11_paste_37 (by decide) ?_
      exact retPi hx hb hr hlk hS dX11_paste_39 (by decide)
    · refine mkP (Qc := QPi (spk 4 3 (spk 4 3 (-6) (-2)) (-2))) (by decide) (by simp [lg_sl, Value.category]) ?_
      intro p e s m args below meth c ls hx hb hml hr hlk hown ht hK hP hS hl
      have hl : lv_has ls 7 [(0, .ref h), (1, .int 3), (2, .int a2), (3, .int 3), (4, .int a4), (5, .int a5)] := hl
      refine lv_iload_n hx hb dX11_paste_0 rfl (lv_at hl 1 rfl) ?_
      refine behI (runSP (As := [.int 3]) (rest := []) ⟨hx, hb, hml, hown, ht⟩ (pX11_isSlot l G cs h q 3) okS_RX11_290 ⟨by decide, by decide⟩ hK hP [] rfl hl.1 rfl (Nat.le_of_ble_eq_true rfl) dX11_paste_1 ⟨by decide, by decide⟩) hP hS (fun _ h => h) (fun H locs hP hS => ?_)
      refine lv_topi (fun v1 ev1 => ?_)
      obtain rfl : v1 = 1 := ev1.trans (by decide)
      refine lv_if_eq (tgt := 14) hx hb dX11_paste_4 (by decide) (fun c2 => False.elim (by revert c2; decide)) (fun c3 => ?_)
      refine lv_iload_n hx hb dX11_paste_7 rfl (lv_at hl 3 rfl) ?_
      refine behI (runSP (As := [.int 3]) (rest := []) ⟨hx, hb, hml, hown, ht⟩ (pX11_isSlot l G cs h q 3) okS_RX11_290 ⟨by decide, by decide⟩ hK hP [] rfl hl.1 rfl (Nat.le_of_ble_eq_true rfl) dX11_paste_8 ⟨by decide, by decide⟩) hP hS (fun _ h => h) (fun H locs hP hS => ?_)
      refine lv_topi (fun v4 ev4 => ?_)
      obtain rfl : v4 = 1 := ev4.trans (by decide)
      refine lv_if_ne (tgt := 17) hx hb dX11_paste_11 (by decide) (fun c6 => ?_) (fun c5 => False.elim (by revert c5; decide))
      refine lv_aload_n hx hb dX11_paste_17 rfl (lv_at hl 0 rfl) ?_
      refine getF hx hb ht hown hK hP iTX11 0 31 rfl rfl (by decide) fl_RX11_61 rfl dX11_paste_18 ?_
      refine lv_iload_n hx hb dX11_paste_21 rfl (lv_at hl 1 rfl) ?_
      refine va_iald hx hb hK.1 hP 1 0 rfl rfl (show ¬ (_ ∨ _) by decide) dX11_paste_22 ?_
      refine lv_topi (fun v7 ev7 => ?_)
      obtain rfl : v7 = (-1) := ev7.trans rfl
      refine lv_iconst (v := (-1)) hx hb dX11_paste_23 (by decide) ?_
      refine lv_icmp_eq (tgt := 37) hx hb dX11_paste_24 (by decide) (fun c9 => ?_) (fun c8 => False.elim (by revert c8; decide))
      refine lv_bipush (v := (-6)) hx hb dX11_paste_37 (by decide) ?_
      exact retPi hx hb hr hlk hS dX11_paste_39 (by decide)

set_option maxRecDepth 100000 in
set_option maxHeartbeats 4000000 in
theorem pX11_fault (l : Launch) (G : va_G) (cs : Nat → ClassId) (h : Nat) (q : Nat → Nat) (a1 : Int32) : PureI l yX11_fault cX11_fault 2 (some .int) 0 G (TY cs) [.ref h, .int a1] [(mc0 cs h q)] (spf a1) := by
  rcases csf a1 with rfl | rfl | ⟨hf0, hf1⟩
  · refine mkP (Qc := QPi (spf 0)) (by decide) (by simp [lg_sl, Value.category]) ?_
    intro p e s m args below meth c ls hx hb hml hr hlk hown ht hK hP hS hl
    have hl : lv_has ls 2 [(0, .ref h), (1, .int 0)] := hl
    refine lv_iload_n hx hb dX11_fault_0 rfl (lv_at hl 1 rfl) ?_
    refine lv_if_ne (tgt := 11) hx hb dX11_fault_1 (by decide) (fun c1 => False.elim (by revert c1; decide)) (fun c2 => ?_)
    refine lv_aload_n hx hb dX11_fault_4 rfl (lv_at hl 0 rfl) ?_
    refine getF hx hb ht hown hK hP iTX11 0 12 rfl rfl (by decide) fl_RX11_130 rfl dX11_fault_5 ?_
    refine lv_goto (tgt := 24) hx hb dX11_fault_8 (by decide) ?_
    exact retPi hx hb hr hlk hS dX11_fault_24 (by decide)
  · refine mkP (Qc := QPi (spf 1)) (by decide) (by simp [lg_sl, Value.category]) ?_
    intro p e s m args below meth c ls hx hb hml hr hlk hown ht hK hP hS hl
    have hl : lv_has ls 2 [(0, .ref h), (1, .int 1)] := hl
    refine lv_iload_n hx hb dX11_fault_0 rfl (lv_at hl 1 rfl) ?_
    refine lv_if_ne (tgt := 11) hx hb dX11_fault_1 (by decide) (fun c2 => ?_) (fun c1 => False.elim (by revert c1; decide))
    refine lv_iload_n hx hb dX11_fault_11 rfl (lv_at hl 1 rfl) ?_
    refine lv_iconst (v := 1) hx hb dX11_fault_12 (by decide) ?_
    refine lv_icmp_ne (tgt := 23) hx hb dX11_fault_13 (by decide) (fun c3 => False.elim (by revert c3; decide)) (fun c4 => ?_)
    refine lv_aload_n hx hb dX11_fault_16 rfl (lv_at hl 0 rfl) ?_
    refine getF hx hb ht hown hK hP iTX11 0 13 rfl rfl (by decide) fl_RX11_27 rfl dX11_fault_17 ?_
    refine lv_goto (tgt := 24) hx hb dX11_fault_20 (by decide) ?_
    exact retPi hx hb hr hlk hS dX11_fault_24 (by decide)
  · refine mkP (Qc := QPi (spf a1)) (by decide) (by simp [lg_sl, Value.category]) ?_
    intro p e s m args below meth c ls hx hb hml hr hlk hown ht hK hP hS hl
    have hl : lv_has ls 2 [(0, .ref h), (1, .int a1)] := hl
    refine lv_iload_n hx hb dX11_fault_0 rfl (lv_at hl 1 rfl) ?_
    refine lv_if_ne (tgt := 11) hx hb dX11_fault_1 (by decide) (fun c2 => ?_) (fun c1 => False.elim (by have z0 := neT hf0; have z1 := neT hf1; have z2 := eqT c1; have k0 : (0 : Int32).toInt = 0 := (by decide); have k1 : (1 : Int32).toInt = 1 := (by decide); omega))
    refine lv_iload_n hx hb dX11_fault_11 rfl (lv_at hl 1 rfl) ?_
    refine lv_iconst (v := 1) hx hb dX11_fault_12 (by decide) ?_
    refine lv_icmp_ne (tgt := 23) hx hb dX11_fault_13 (by decide) (fun c4 => ?_) (fun c3 => False.elim (by have z0 := neT hf0; have z1 := neT hf1; have z2 := eqT c3; have k0 : (0 : Int32).toInt = 0 := (by decide); have k1 : (1 : Int32).toInt = 1 := (by decide); omega))
    refine lv_iconst (v := (-1)) hx hb dX11_fault_23 (by decide) ?_
    exact retPi hx hb hr hlk hS dX11_fault_24 ((if_neg hf0).symm)
end
