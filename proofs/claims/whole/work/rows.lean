section
-- ===== PART A: goes FIRST, ahead of the names: the tables' words, and 'selects' of the private methods out of them =====
/-- a private method of a class that the tables say can be made, by its rows of tables_1 -/
def lw_okq (q : MethodName × Nat) : Prop := (q.1.cls ≠ "java/lang/invoke/MethodHandle" ∧ q.1.cls ≠ "java/lang/invoke/VarHandle") ∧ Cond.instantiable q.1.cls q.2 ∈ tables_1 ∧ Cond.privateMethod q.1 ∈ tables_1 ∧ Cond.instanceMethod q.1 ∈ tables_1
theorem lw_p0 : lw_okq (⟨"HeededWishes$Rules", "readItem", "(I)I"⟩, 7) := ⟨⟨by decide +kernel, by decide +kernel⟩, List.mem_of_getElem? (i := 79) (by decide +kernel), List.mem_of_getElem? (i := 448) (by decide +kernel), List.mem_of_getElem? (i := 449) (by decide +kernel)⟩
theorem lw_p1 : lw_okq (⟨"HeededWishes$Rules", "figuresAt", "(I)I"⟩, 7) := ⟨⟨by decide +kernel, by decide +kernel⟩, List.mem_of_getElem? (i := 79) (by decide +kernel), List.mem_of_getElem? (i := 455) (by decide +kernel), List.mem_of_getElem? (i := 456) (by decide +kernel)⟩
theorem lw_p2 : lw_okq (⟨"HeededWishes$Rules", "isFigure", "(I)Z"⟩, 7) := ⟨⟨by decide +kernel, by decide +kernel⟩, List.mem_of_getElem? (i := 79) (by decide +kernel), List.mem_of_getElem? (i := 459) (by decide +kernel), List.mem_of_getElem? (i := 460) (by decide +kernel)⟩
theorem lw_p3 : lw_okq (⟨"HeededWishes$Rules", "valueAt", "(II)I"⟩, 7) := ⟨⟨by decide +kernel, by decide +kernel⟩, List.mem_of_getElem? (i := 79) (by decide +kernel), List.mem_of_getElem? (i := 463) (by decide +kernel), List.mem_of_getElem? (i := 464) (by decide +kernel)⟩
theorem lw_p4 : lw_okq (⟨"HeededWishes$Rules", "numbersFit", "(I)Z"⟩, 7) := ⟨⟨by decide +kernel, by decide +kernel⟩, List.mem_of_getElem? (i := 79) (by decide +kernel), List.mem_of_getElem? (i := 467) (by decide +kernel), List.mem_of_getElem? (i := 468) (by decide +kernel)⟩
theorem lw_p5 : lw_okq (⟨"HeededWishes$Rules", "letsByItem", "(IIII)Z"⟩, 7) := ⟨⟨by decide +kernel, by decide +kernel⟩, List.mem_of_getElem? (i := 79) (by decide +kernel), List.mem_of_getElem? (i := 495) (by decide +kernel), List.mem_of_getElem? (i := 496) (by decide +kernel)⟩
theorem lw_p6 : lw_okq (⟨"HeededWishes$Rules", "barsByItem", "(II)Z"⟩, 7) := ⟨⟨by decide +kernel, by decide +kernel⟩, List.mem_of_getElem? (i := 79) (by decide +kernel), List.mem_of_getElem? (i := 507) (by decide +kernel), List.mem_of_getElem? (i := 508) (by decide +kernel)⟩
theorem lw_p7 : lw_okq (⟨"HeededWishes$Vocabulary", "priceWithSound", "([II)V"⟩, 8) := ⟨⟨by decide +kernel, by decide +kernel⟩, List.mem_of_getElem? (i := 110) (by decide +kernel), List.mem_of_getElem? (i := 543) (by decide +kernel), List.mem_of_getElem? (i := 544) (by decide +kernel)⟩
theorem lw_p8 : lw_okq (⟨"HeededWishes$Hearing", "offerWithVerb", "(II)V"⟩, 16) := ⟨⟨by decide +kernel, by decide +kernel⟩, List.mem_of_getElem? (i := 146) (by decide +kernel), List.mem_of_getElem? (i := 550) (by decide +kernel), List.mem_of_getElem? (i := 551) (by decide +kernel)⟩
theorem lw_p9 : lw_okq (⟨"HeededWishes$Hearing", "offer", "(IIII)V"⟩, 16) := ⟨⟨by decide +kernel, by decide +kernel⟩, List.mem_of_getElem? (i := 146) (by decide +kernel), List.mem_of_getElem? (i := 554) (by decide +kernel), List.mem_of_getElem? (i := 555) (by decide +kernel)⟩
theorem lw_p10 : lw_okq (⟨"HeededWishes$Hearing", "offerWithSort", "(III)V"⟩, 16) := ⟨⟨by decide +kernel, by decide +kernel⟩, List.mem_of_getElem? (i := 146) (by decide +kernel), List.mem_of_getElem? (i := 558) (by decide +kernel), List.mem_of_getElem? (i := 559) (by decide +kernel)⟩
theorem lw_p11 : lw_okq (⟨"HeededWishes$Hearing", "thingsNamed", "(I)I"⟩, 16) := ⟨⟨by decide +kernel, by decide +kernel⟩, List.mem_of_getElem? (i := 146) (by decide +kernel), List.mem_of_getElem? (i := 566) (by decide +kernel), List.mem_of_getElem? (i := 567) (by decide +kernel)⟩
theorem lw_p12 : lw_okq (⟨"HeededWishes$Hearing", "isFirstToDoSo", "(I)Z"⟩, 16) := ⟨⟨by decide +kernel, by decide +kernel⟩, List.mem_of_getElem? (i := 146) (by decide +kernel), List.mem_of_getElem? (i := 612) (by decide +kernel), List.mem_of_getElem? (i := 613) (by decide +kernel)⟩
theorem lw_p13 : lw_okq (⟨"HeededWishes$Hearing", "statesBy", "(I)I"⟩, 16) := ⟨⟨by decide +kernel, by decide +kernel⟩, List.mem_of_getElem? (i := 146) (by decide +kernel), List.mem_of_getElem? (i := 616) (by decide +kernel), List.mem_of_getElem? (i := 617) (by decide +kernel)⟩
theorem lw_p14 : lw_okq (⟨"HeededWishes$Hearing", "greatestWithOneAnswer", "(I)I"⟩, 16) := ⟨⟨by decide +kernel, by decide +kernel⟩, List.mem_of_getElem? (i := 146) (by decide +kernel), List.mem_of_getElem? (i := 635) (by decide +kernel), List.mem_of_getElem? (i := 636) (by decide +kernel)⟩
theorem lw_p15 : lw_okq (⟨"HeededWishes$Hearing", "wordAt", "(II)I"⟩, 16) := ⟨⟨by decide +kernel, by decide +kernel⟩, List.mem_of_getElem? (i := 146) (by decide +kernel), List.mem_of_getElem? (i := 639) (by decide +kernel), List.mem_of_getElem? (i := 640) (by decide +kernel)⟩
def lw_privs_1 : List (MethodName × Nat) := [(⟨"HeededWishes$Rules", "readItem", "(I)I"⟩, 7), (⟨"HeededWishes$Rules", "figuresAt", "(I)I"⟩, 7), (⟨"HeededWishes$Rules", "isFigure", "(I)Z"⟩, 7), (⟨"HeededWishes$Rules", "valueAt", "(II)I"⟩, 7), (⟨"HeededWishes$Rules", "numbersFit", "(I)Z"⟩, 7), (⟨"HeededWishes$Rules", "letsByItem", "(IIII)Z"⟩, 7), (⟨"HeededWishes$Rules", "barsByItem", "(II)Z"⟩, 7), (⟨"HeededWishes$Vocabulary", "priceWithSound", "([II)V"⟩, 8), (⟨"HeededWishes$Hearing", "offerWithVerb", "(II)V"⟩, 16), (⟨"HeededWishes$Hearing", "offer", "(IIII)V"⟩, 16), (⟨"HeededWishes$Hearing", "offerWithSort", "(III)V"⟩, 16), (⟨"HeededWishes$Hearing", "thingsNamed", "(I)I"⟩, 16), (⟨"HeededWishes$Hearing", "isFirstToDoSo", "(I)Z"⟩, 16), (⟨"HeededWishes$Hearing", "statesBy", "(I)I"⟩, 16), (⟨"HeededWishes$Hearing", "greatestWithOneAnswer", "(I)I"⟩, 16), (⟨"HeededWishes$Hearing", "wordAt", "(II)I"⟩, 16)]
theorem lw_r1 : ∀ q ∈ lw_privs_1, lw_okq q := List.forall_mem_cons.mpr ⟨lw_p0, List.forall_mem_cons.mpr ⟨lw_p1, List.forall_mem_cons.mpr ⟨lw_p2, List.forall_mem_cons.mpr ⟨lw_p3, List.forall_mem_cons.mpr ⟨lw_p4, List.forall_mem_cons.mpr ⟨lw_p5, List.forall_mem_cons.mpr ⟨lw_p6, List.forall_mem_cons.mpr ⟨lw_p7, List.forall_mem_cons.mpr ⟨lw_p8, List.forall_mem_cons.mpr ⟨lw_p9, List.forall_mem_cons.mpr ⟨lw_p10, List.forall_mem_cons.mpr ⟨lw_p11, List.forall_mem_cons.mpr ⟨lw_p12, List.forall_mem_cons.mpr ⟨lw_p13, List.forall_mem_cons.mpr ⟨lw_p14, List.forall_mem_cons.mpr ⟨lw_p15, fun _ h => absurd h List.not_mem_nil⟩⟩⟩⟩⟩⟩⟩⟩⟩⟩⟩⟩⟩⟩⟩⟩
theorem lw_p16 : lw_okq (⟨"HeededWishes$Hearing", "openWith", "(II)I"⟩, 16) := ⟨⟨by decide +kernel, by decide +kernel⟩, List.mem_of_getElem? (i := 146) (by decide +kernel), List.mem_of_getElem? (i := 643) (by decide +kernel), List.mem_of_getElem? (i := 644) (by decide +kernel)⟩
theorem lw_p17 : lw_okq (⟨"HeededWishes", "mayTurnAll", "(II)Z"⟩, 9) := ⟨⟨by decide +kernel, by decide +kernel⟩, List.mem_of_getElem? (i := 17) (by decide +kernel), List.mem_of_getElem? (i := 667) (by decide +kernel), List.mem_of_getElem? (i := 668) (by decide +kernel)⟩
theorem lw_p18 : lw_okq (⟨"HeededWishes", "carryOut", "(II)I"⟩, 9) := ⟨⟨by decide +kernel, by decide +kernel⟩, List.mem_of_getElem? (i := 17) (by decide +kernel), List.mem_of_getElem? (i := 679) (by decide +kernel), List.mem_of_getElem? (i := 680) (by decide +kernel)⟩
theorem lw_p19 : lw_okq (⟨"HeededWishes$Diary", "dropOldest", "()V"⟩, 8) := ⟨⟨by decide +kernel, by decide +kernel⟩, List.mem_of_getElem? (i := 306) (by decide +kernel), List.mem_of_getElem? (i := 700) (by decide +kernel), List.mem_of_getElem? (i := 701) (by decide +kernel)⟩
theorem lw_p20 : lw_okq (⟨"HeededWishes$Diary", "moveEntry", "(II)V"⟩, 8) := ⟨⟨by decide +kernel, by decide +kernel⟩, List.mem_of_getElem? (i := 306) (by decide +kernel), List.mem_of_getElem? (i := 704) (by decide +kernel), List.mem_of_getElem? (i := 705) (by decide +kernel)⟩
theorem lw_p21 : lw_okq (⟨"HeededWishes$Standing", "putInRow", "(I)V"⟩, 10) := ⟨⟨by decide +kernel, by decide +kernel⟩, List.mem_of_getElem? (i := 235) (by decide +kernel), List.mem_of_getElem? (i := 717) (by decide +kernel), List.mem_of_getElem? (i := 718) (by decide +kernel)⟩
theorem lw_p22 : lw_okq (⟨"HeededWishes", "takeBack", "(I)I"⟩, 9) := ⟨⟨by decide +kernel, by decide +kernel⟩, List.mem_of_getElem? (i := 17) (by decide +kernel), List.mem_of_getElem? (i := 747) (by decide +kernel), List.mem_of_getElem? (i := 748) (by decide +kernel)⟩
theorem lw_p23 : lw_okq (⟨"HeededWishes$Standing", "allWokenBy", "(I)I"⟩, 10) := ⟨⟨by decide +kernel, by decide +kernel⟩, List.mem_of_getElem? (i := 235) (by decide +kernel), List.mem_of_getElem? (i := 794) (by decide +kernel), List.mem_of_getElem? (i := 795) (by decide +kernel)⟩
theorem lw_p24 : lw_okq (⟨"HeededWishes$Standing", "wokenAtOnceBy", "(I)I"⟩, 10) := ⟨⟨by decide +kernel, by decide +kernel⟩, List.mem_of_getElem? (i := 235) (by decide +kernel), List.mem_of_getElem? (i := 798) (by decide +kernel), List.mem_of_getElem? (i := 799) (by decide +kernel)⟩
theorem lw_p25 : lw_okq (⟨"HeededWishes$Foresight", "reach", "(II)V"⟩, 8) := ⟨⟨by decide +kernel, by decide +kernel⟩, List.mem_of_getElem? (i := 275) (by decide +kernel), List.mem_of_getElem? (i := 813) (by decide +kernel), List.mem_of_getElem? (i := 814) (by decide +kernel)⟩
theorem lw_p26 : lw_okq (⟨"HeededWishes$Foresight", "comesToBarredFrom", "(IJ)Z"⟩, 8) := ⟨⟨by decide +kernel, by decide +kernel⟩, List.mem_of_getElem? (i := 275) (by decide +kernel), List.mem_of_getElem? (i := 817) (by decide +kernel), List.mem_of_getElem? (i := 818) (by decide +kernel)⟩
theorem lw_p27 : lw_okq (⟨"HeededWishesModel", "isThing", "(I)Z"⟩, 52) := ⟨⟨by decide +kernel, by decide +kernel⟩, List.mem_of_getElem? (i := 883) (by decide +kernel), List.mem_of_getElem? (i := 1066) (by decide +kernel), List.mem_of_getElem? (i := 1067) (by decide +kernel)⟩
theorem lw_p28 : lw_okq (⟨"HeededWishesModel", "readAll", "()I"⟩, 52) := ⟨⟨by decide +kernel, by decide +kernel⟩, List.mem_of_getElem? (i := 883) (by decide +kernel), List.mem_of_getElem? (i := 1101) (by decide +kernel), List.mem_of_getElem? (i := 1102) (by decide +kernel)⟩
theorem lw_p29 : lw_okq (⟨"HeededWishesModel", "item", "()Z"⟩, 52) := ⟨⟨by decide +kernel, by decide +kernel⟩, List.mem_of_getElem? (i := 883) (by decide +kernel), List.mem_of_getElem? (i := 1105) (by decide +kernel), List.mem_of_getElem? (i := 1106) (by decide +kernel)⟩
theorem lw_p30 : lw_okq (⟨"HeededWishesModel", "figures", "(I)Z"⟩, 52) := ⟨⟨by decide +kernel, by decide +kernel⟩, List.mem_of_getElem? (i := 883) (by decide +kernel), List.mem_of_getElem? (i := 1109) (by decide +kernel), List.mem_of_getElem? (i := 1110) (by decide +kernel)⟩
theorem lw_p31 : lw_okq (⟨"HeededWishesModel", "mayTurn", "(III)Z"⟩, 52) := ⟨⟨by decide +kernel, by decide +kernel⟩, List.mem_of_getElem? (i := 883) (by decide +kernel), List.mem_of_getElem? (i := 1125) (by decide +kernel), List.mem_of_getElem? (i := 1126) (by decide +kernel)⟩
def lw_privs_2 : List (MethodName × Nat) := [(⟨"HeededWishes$Hearing", "openWith", "(II)I"⟩, 16), (⟨"HeededWishes", "mayTurnAll", "(II)Z"⟩, 9), (⟨"HeededWishes", "carryOut", "(II)I"⟩, 9), (⟨"HeededWishes$Diary", "dropOldest", "()V"⟩, 8), (⟨"HeededWishes$Diary", "moveEntry", "(II)V"⟩, 8), (⟨"HeededWishes$Standing", "putInRow", "(I)V"⟩, 10), (⟨"HeededWishes", "takeBack", "(I)I"⟩, 9), (⟨"HeededWishes$Standing", "allWokenBy", "(I)I"⟩, 10), (⟨"HeededWishes$Standing", "wokenAtOnceBy", "(I)I"⟩, 10), (⟨"HeededWishes$Foresight", "reach", "(II)V"⟩, 8), (⟨"HeededWishes$Foresight", "comesToBarredFrom", "(IJ)Z"⟩, 8), (⟨"HeededWishesModel", "isThing", "(I)Z"⟩, 52), (⟨"HeededWishesModel", "readAll", "()I"⟩, 52), (⟨"HeededWishesModel", "item", "()Z"⟩, 52), (⟨"HeededWishesModel", "figures", "(I)Z"⟩, 52), (⟨"HeededWishesModel", "mayTurn", "(III)Z"⟩, 52)]
theorem lw_r2 : ∀ q ∈ lw_privs_2, lw_okq q := List.forall_mem_cons.mpr ⟨lw_p16, List.forall_mem_cons.mpr ⟨lw_p17, List.forall_mem_cons.mpr ⟨lw_p18, List.forall_mem_cons.mpr ⟨lw_p19, List.forall_mem_cons.mpr ⟨lw_p20, List.forall_mem_cons.mpr ⟨lw_p21, List.forall_mem_cons.mpr ⟨lw_p22, List.forall_mem_cons.mpr ⟨lw_p23, List.forall_mem_cons.mpr ⟨lw_p24, List.forall_mem_cons.mpr ⟨lw_p25, List.forall_mem_cons.mpr ⟨lw_p26, List.forall_mem_cons.mpr ⟨lw_p27, List.forall_mem_cons.mpr ⟨lw_p28, List.forall_mem_cons.mpr ⟨lw_p29, List.forall_mem_cons.mpr ⟨lw_p30, List.forall_mem_cons.mpr ⟨lw_p31, fun _ h => absurd h List.not_mem_nil⟩⟩⟩⟩⟩⟩⟩⟩⟩⟩⟩⟩⟩⟩⟩⟩
theorem lw_p32 : lw_okq (⟨"HeededWishesModel", "bars", "(I)Z"⟩, 52) := ⟨⟨by decide +kernel, by decide +kernel⟩, List.mem_of_getElem? (i := 883) (by decide +kernel), List.mem_of_getElem? (i := 1133) (by decide +kernel), List.mem_of_getElem? (i := 1134) (by decide +kernel)⟩
theorem lw_p33 : lw_okq (⟨"HeededWishesModel", "stateOf", "(I)I"⟩, 52) := ⟨⟨by decide +kernel, by decide +kernel⟩, List.mem_of_getElem? (i := 883) (by decide +kernel), List.mem_of_getElem? (i := 1137) (by decide +kernel), List.mem_of_getElem? (i := 1138) (by decide +kernel)⟩
theorem lw_p34 : lw_okq (⟨"HeededWishesModel", "layReadings", "()V"⟩, 52) := ⟨⟨by decide +kernel, by decide +kernel⟩, List.mem_of_getElem? (i := 883) (by decide +kernel), List.mem_of_getElem? (i := 1145) (by decide +kernel), List.mem_of_getElem? (i := 1146) (by decide +kernel)⟩
theorem lw_p35 : lw_okq (⟨"HeededWishesModel", "take", "(III)V"⟩, 52) := ⟨⟨by decide +kernel, by decide +kernel⟩, List.mem_of_getElem? (i := 883) (by decide +kernel), List.mem_of_getElem? (i := 1149) (by decide +kernel), List.mem_of_getElem? (i := 1150) (by decide +kernel)⟩
theorem lw_p36 : lw_okq (⟨"HeededWishesModel", "priceOf", "(III)I"⟩, 52) := ⟨⟨by decide +kernel, by decide +kernel⟩, List.mem_of_getElem? (i := 883) (by decide +kernel), List.mem_of_getElem? (i := 1153) (by decide +kernel), List.mem_of_getElem? (i := 1154) (by decide +kernel)⟩
theorem lw_p37 : lw_okq (⟨"HeededWishesModel", "addWord", "(I)V"⟩, 52) := ⟨⟨by decide +kernel, by decide +kernel⟩, List.mem_of_getElem? (i := 883) (by decide +kernel), List.mem_of_getElem? (i := 1157) (by decide +kernel), List.mem_of_getElem? (i := 1158) (by decide +kernel)⟩
theorem lw_p38 : lw_okq (⟨"HeededWishesModel", "meaning", "(III)I"⟩, 52) := ⟨⟨by decide +kernel, by decide +kernel⟩, List.mem_of_getElem? (i := 883) (by decide +kernel), List.mem_of_getElem? (i := 1164) (by decide +kernel), List.mem_of_getElem? (i := 1165) (by decide +kernel)⟩
theorem lw_p39 : lw_okq (⟨"HeededWishesModel", "unlikeMany", "()I"⟩, 52) := ⟨⟨by decide +kernel, by decide +kernel⟩, List.mem_of_getElem? (i := 883) (by decide +kernel), List.mem_of_getElem? (i := 1182) (by decide +kernel), List.mem_of_getElem? (i := 1183) (by decide +kernel)⟩
theorem lw_p40 : lw_okq (⟨"HeededWishesModel", "outcome", "(I)I"⟩, 52) := ⟨⟨by decide +kernel, by decide +kernel⟩, List.mem_of_getElem? (i := 883) (by decide +kernel), List.mem_of_getElem? (i := 1186) (by decide +kernel), List.mem_of_getElem? (i := 1187) (by decide +kernel)⟩
theorem lw_p41 : lw_okq (⟨"HeededWishesModel", "layBars", "()V"⟩, 52) := ⟨⟨by decide +kernel, by decide +kernel⟩, List.mem_of_getElem? (i := 883) (by decide +kernel), List.mem_of_getElem? (i := 1202) (by decide +kernel), List.mem_of_getElem? (i := 1203) (by decide +kernel)⟩
theorem lw_p42 : lw_okq (⟨"HeededWishesModel", "newBar", "()Z"⟩, 52) := ⟨⟨by decide +kernel, by decide +kernel⟩, List.mem_of_getElem? (i := 883) (by decide +kernel), List.mem_of_getElem? (i := 1206) (by decide +kernel), List.mem_of_getElem? (i := 1207) (by decide +kernel)⟩
theorem lw_p43 : lw_okq (⟨"HeededWishesModel", "log", "(II)V"⟩, 52) := ⟨⟨by decide +kernel, by decide +kernel⟩, List.mem_of_getElem? (i := 883) (by decide +kernel), List.mem_of_getElem? (i := 1210) (by decide +kernel), List.mem_of_getElem? (i := 1211) (by decide +kernel)⟩
theorem lw_p44 : lw_okq (⟨"HeededWishesModel", "wakeBy", "(I)V"⟩, 52) := ⟨⟨by decide +kernel, by decide +kernel⟩, List.mem_of_getElem? (i := 883) (by decide +kernel), List.mem_of_getElem? (i := 1214) (by decide +kernel), List.mem_of_getElem? (i := 1215) (by decide +kernel)⟩
theorem lw_p45 : lw_okq (⟨"HeededWishesModel", "fire", "(I)V"⟩, 52) := ⟨⟨by decide +kernel, by decide +kernel⟩, List.mem_of_getElem? (i := 883) (by decide +kernel), List.mem_of_getElem? (i := 1221) (by decide +kernel), List.mem_of_getElem? (i := 1222) (by decide +kernel)⟩
theorem lw_p46 : lw_okq (⟨"HeededWishesModel", "isState", "(II)Z"⟩, 52) := ⟨⟨by decide +kernel, by decide +kernel⟩, List.mem_of_getElem? (i := 883) (by decide +kernel), List.mem_of_getElem? (i := 1233) (by decide +kernel), List.mem_of_getElem? (i := 1234) (by decide +kernel)⟩
theorem lw_p47 : lw_okq (⟨"HeededWishesModel", "stand", "(IIIII)I"⟩, 52) := ⟨⟨by decide +kernel, by decide +kernel⟩, List.mem_of_getElem? (i := 883) (by decide +kernel), List.mem_of_getElem? (i := 1237) (by decide +kernel), List.mem_of_getElem? (i := 1238) (by decide +kernel)⟩
def lw_privs_3 : List (MethodName × Nat) := [(⟨"HeededWishesModel", "bars", "(I)Z"⟩, 52), (⟨"HeededWishesModel", "stateOf", "(I)I"⟩, 52), (⟨"HeededWishesModel", "layReadings", "()V"⟩, 52), (⟨"HeededWishesModel", "take", "(III)V"⟩, 52), (⟨"HeededWishesModel", "priceOf", "(III)I"⟩, 52), (⟨"HeededWishesModel", "addWord", "(I)V"⟩, 52), (⟨"HeededWishesModel", "meaning", "(III)I"⟩, 52), (⟨"HeededWishesModel", "unlikeMany", "()I"⟩, 52), (⟨"HeededWishesModel", "outcome", "(I)I"⟩, 52), (⟨"HeededWishesModel", "layBars", "()V"⟩, 52), (⟨"HeededWishesModel", "newBar", "()Z"⟩, 52), (⟨"HeededWishesModel", "log", "(II)V"⟩, 52), (⟨"HeededWishesModel", "wakeBy", "(I)V"⟩, 52), (⟨"HeededWishesModel", "fire", "(I)V"⟩, 52), (⟨"HeededWishesModel", "isState", "(II)Z"⟩, 52), (⟨"HeededWishesModel", "stand", "(IIIII)I"⟩, 52)]
theorem lw_r3 : ∀ q ∈ lw_privs_3, lw_okq q := List.forall_mem_cons.mpr ⟨lw_p32, List.forall_mem_cons.mpr ⟨lw_p33, List.forall_mem_cons.mpr ⟨lw_p34, List.forall_mem_cons.mpr ⟨lw_p35, List.forall_mem_cons.mpr ⟨lw_p36, List.forall_mem_cons.mpr ⟨lw_p37, List.forall_mem_cons.mpr ⟨lw_p38, List.forall_mem_cons.mpr ⟨lw_p39, List.forall_mem_cons.mpr ⟨lw_p40, List.forall_mem_cons.mpr ⟨lw_p41, List.forall_mem_cons.mpr ⟨lw_p42, List.forall_mem_cons.mpr ⟨lw_p43, List.forall_mem_cons.mpr ⟨lw_p44, List.forall_mem_cons.mpr ⟨lw_p45, List.forall_mem_cons.mpr ⟨lw_p46, List.forall_mem_cons.mpr ⟨lw_p47, fun _ h => absurd h List.not_mem_nil⟩⟩⟩⟩⟩⟩⟩⟩⟩⟩⟩⟩⟩⟩⟩⟩
theorem lw_p48 : lw_okq (⟨"HeededWishesModel", "wakes", "(I)I"⟩, 52) := ⟨⟨by decide +kernel, by decide +kernel⟩, List.mem_of_getElem? (i := 883) (by decide +kernel), List.mem_of_getElem? (i := 1257) (by decide +kernel), List.mem_of_getElem? (i := 1258) (by decide +kernel)⟩
theorem lw_p49 : lw_okq (⟨"HeededWishesModel", "shows", "(II)Z"⟩, 52) := ⟨⟨by decide +kernel, by decide +kernel⟩, List.mem_of_getElem? (i := 883) (by decide +kernel), List.mem_of_getElem? (i := 1265) (by decide +kernel), List.mem_of_getElem? (i := 1266) (by decide +kernel)⟩
theorem lw_p50 : lw_okq (⟨"HeededWishesModel", "restore", "(I)V"⟩, 52) := ⟨⟨by decide +kernel, by decide +kernel⟩, List.mem_of_getElem? (i := 883) (by decide +kernel), List.mem_of_getElem? (i := 1269) (by decide +kernel), List.mem_of_getElem? (i := 1270) (by decide +kernel)⟩
theorem lw_p51 : lw_okq (⟨"HeededWishesModel", "bringsBar", "(I)Z"⟩, 52) := ⟨⟨by decide +kernel, by decide +kernel⟩, List.mem_of_getElem? (i := 883) (by decide +kernel), List.mem_of_getElem? (i := 1273) (by decide +kernel), List.mem_of_getElem? (i := 1274) (by decide +kernel)⟩
theorem lw_p52 : lw_okq (⟨"HeededWishesModel", "daysOf", "(IIII)I"⟩, 52) := ⟨⟨by decide +kernel, by decide +kernel⟩, List.mem_of_getElem? (i := 883) (by decide +kernel), List.mem_of_getElem? (i := 1282) (by decide +kernel), List.mem_of_getElem? (i := 1283) (by decide +kernel)⟩
def lw_privs_4 : List (MethodName × Nat) := [(⟨"HeededWishesModel", "wakes", "(I)I"⟩, 52), (⟨"HeededWishesModel", "shows", "(II)Z"⟩, 52), (⟨"HeededWishesModel", "restore", "(I)V"⟩, 52), (⟨"HeededWishesModel", "bringsBar", "(I)Z"⟩, 52), (⟨"HeededWishesModel", "daysOf", "(IIII)I"⟩, 52)]
theorem lw_r4 : ∀ q ∈ lw_privs_4, lw_okq q := List.forall_mem_cons.mpr ⟨lw_p48, List.forall_mem_cons.mpr ⟨lw_p49, List.forall_mem_cons.mpr ⟨lw_p50, List.forall_mem_cons.mpr ⟨lw_p51, List.forall_mem_cons.mpr ⟨lw_p52, fun _ h => absurd h List.not_mem_nil⟩⟩⟩⟩⟩
def lw_privs : List (MethodName × Nat) := lw_privs_1 ++ (lw_privs_2 ++ (lw_privs_3 ++ (lw_privs_4)))
def lw_tbl : List Cond := k2_sels lw_privs ++ tables_1
theorem lw_privs_ok : ∀ q ∈ lw_privs, lw_okq q := by
  show ∀ q ∈ lw_privs_1 ++ (lw_privs_2 ++ (lw_privs_3 ++ (lw_privs_4))), lw_okq q
  exact List.forall_mem_append.mpr ⟨lw_r1, List.forall_mem_append.mpr ⟨lw_r2, List.forall_mem_append.mpr ⟨lw_r3, lw_r4⟩⟩⟩
end
section
theorem goodIn_r {big : List Cond} (ws : List Cond) (ps : List Nat) (hp : ws = ps.filterMap (fun i => big[i]?)) (h : ws.all goodWord = true) : GoodIn big ws := by
  intro w hw
  have h1 := List.all_eq_true.mp h w hw
  rw [hp] at hw
  obtain ⟨i, -, hi⟩ := List.mem_filterMap.mp hw
  have hm : w ∈ big := by first | exact List.mem_of_getElem? hi | exact List.getElem?_mem hi
  exact ⟨hm, good_of_word h1⟩
theorem goodIn_app {big a b : List Cond} (ha : GoodIn big a) (hb : GoodIn big b) : GoodIn big (a ++ b) := fun w h => (List.mem_append.mp h).elim (ha w) (hb w)
theorem goodIn_ca {big a b : List Cond} {c : Cond} (ha : GoodIn big (c :: a)) (hb : GoodIn big b) : GoodIn big (c :: (a ++ b)) := fun w h => (List.mem_cons.mp h).elim (fun e => ha w (List.mem_cons.mpr (Or.inl e))) (fun h => (List.mem_append.mp h).elim (fun h => ha w (List.mem_cons.mpr (Or.inr h))) (hb w))
theorem goodIn_sub {big ws : List Cond} (hm : ∀ w ∈ ws, w ∈ big) (h : ws.all goodWord = true) : GoodIn big ws := fun w hw => ⟨hm w hw, good_of_word (List.all_eq_true.mp h w hw)⟩
def RX0 : String := "HeededWishes$Deeds"
def TX0 : u_T := fun k => match k with
  | 0 => ("HeededWishes$Deeds", "changed", "[I", true)
  | 1 => ("HeededWishes$Deeds", "statesAhead", "[I", true)
  | 2 => ("HeededWishes$Deeds", "back", "[Z", true)
  | 3 => ("HeededWishes$Deeds", "size", "I", false)
  | _ => ("HeededWishes$Deeds", "lastMeant", "I", false)
def tyX0 : Nat → FieldType := fun k => match k with
  | 0 => .array .int
  | 1 => .array .int
  | 2 => .array .boolean
  | 3 => .int
  | _ => .int
abbrev wsX00 : List Cond := u_ws RX0 TX0 5
theorem nmX0 : ∀ a, a < 5 → ∀ b, b < 5 → a ≠ b → (TX0 a).2.1 ≠ (TX0 b).2.1 := by decide +kernel
theorem tyX0_ok : ∀ k, k < 5 → parseFieldDescriptor (TX0 k).2.2.1 = some (tyX0 k) := by decide +kernel
abbrev cX0_init : ByteArray := prog_2_method_1_code
def yX0_init : MethodName := ⟨RX0, "<init>", "()V"⟩
abbrev cX0_add : ByteArray := prog_2_method_2_code
def yX0_add : MethodName := ⟨RX0, "add", "(III)I"⟩
abbrev cX0_lastNotBack : ByteArray := prog_2_method_3_code
def yX0_lastNotBack : MethodName := ⟨RX0, "lastNotBack", "()I"⟩
def RX1 : String := "HeededWishes$Diary"
def TX1 : u_T := fun k => match k with
  | 0 => ("HeededWishes$Diary", "who", "[I", true)
  | 1 => ("HeededWishes$Diary", "day", "[I", true)
  | 2 => ("HeededWishes$Diary", "hourOfDay", "[I", true)
  | 3 => ("HeededWishes$Diary", "thing", "[I", true)
  | 4 => ("HeededWishes$Diary", "state", "[I", true)
  | 5 => ("HeededWishes$Diary", "daysOf", "[I", true)
  | 6 => ("HeededWishes$Diary", "size", "I", false)
  | _ => ("HeededWishes$Diary", "forgotten", "I", false)
def tyX1 : Nat → FieldType := fun k => match k with
  | 0 => .array .int
  | 1 => .array .int
  | 2 => .array .int
  | 3 => .array .int
  | 4 => .array .int
  | 5 => .array .int
  | 6 => .int
  | _ => .int
abbrev wsX10 : List Cond := u_ws RX1 TX1 8
theorem nmX1 : ∀ a, a < 8 → ∀ b, b < 8 → a ≠ b → (TX1 a).2.1 ≠ (TX1 b).2.1 := by decide +kernel
theorem tyX1_ok : ∀ k, k < 8 → parseFieldDescriptor (TX1 k).2.2.1 = some (tyX1 k) := by decide +kernel
abbrev cX1_init : ByteArray := prog_3_method_1_code
def yX1_init : MethodName := ⟨RX1, "<init>", "()V"⟩
abbrev cX1_add : ByteArray := prog_3_method_2_code
def yX1_add : MethodName := ⟨RX1, "add", "(IIII)V"⟩
abbrev cX1_dropOldest : ByteArray := prog_3_method_3_code
def yX1_dropOldest : MethodName := ⟨RX1, "dropOldest", "()V"⟩
abbrev cX1_moveEntry : ByteArray := prog_3_method_4_code
def yX1_moveEntry : MethodName := ⟨RX1, "moveEntry", "(II)V"⟩
abbrev cX1_drop : ByteArray := prog_3_method_5_code
def yX1_drop : MethodName := ⟨RX1, "drop", "(I)I"⟩
abbrev cX1_gatherDays : ByteArray := prog_3_method_6_code
def yX1_gatherDays : MethodName := ⟨RX1, "gatherDays", "(II)V"⟩
abbrev cX1_howMany : ByteArray := prog_3_method_7_code
def yX1_howMany : MethodName := ⟨RX1, "howMany", "(I)I"⟩
abbrev cX1_habit : ByteArray := prog_3_method_8_code
def yX1_habit : MethodName := ⟨RX1, "habit", "(II)I"⟩
abbrev cX1_toldAs : ByteArray := prog_3_method_9_code
def yX1_toldAs : MethodName := ⟨RX1, "toldAs", "(I)I"⟩
def RX2 : String := "HeededWishes$Foresight"
def TX2 : u_T := fun k => match k with
  | 0 => ("HeededWishes$Foresight", "house", "LHeededWishes$House;", true)
  | 1 => ("HeededWishes$Foresight", "rules", "LHeededWishes$Rules;", true)
  | 2 => ("HeededWishes$Foresight", "standing", "LHeededWishes$Standing;", true)
  | 3 => ("HeededWishes$Foresight", "firedAt", "[I", true)
  | 4 => ("HeededWishes$Foresight", "statesAt", "[I", true)
  | 5 => ("HeededWishes$Foresight", "placeAhead", "[I", true)
  | 6 => ("HeededWishes$Foresight", "lastPlaceWith", "[I", true)
  | _ => ("HeededWishes$Foresight", "reached", "I", false)
def tyX2 : Nat → FieldType := fun k => match k with
  | 0 => .object "HeededWishes$House"
  | 1 => .object "HeededWishes$Rules"
  | 2 => .object "HeededWishes$Standing"
  | 3 => .array .int
  | 4 => .array .int
  | 5 => .array .int
  | 6 => .array .int
  | _ => .int
abbrev wsX20 : List Cond := u_ws RX2 TX2 8
theorem nmX2 : ∀ a, a < 8 → ∀ b, b < 8 → a ≠ b → (TX2 a).2.1 ≠ (TX2 b).2.1 := by decide +kernel
theorem tyX2_ok : ∀ k, k < 8 → parseFieldDescriptor (TX2 k).2.2.1 = some (tyX2 k) := by decide +kernel
abbrev cX2_init : ByteArray := prog_4_method_1_code
def yX2_init : MethodName := ⟨RX2, "<init>", "(LHeededWishes$House;LHeededWishes$Rules;LHeededWishes$Standing;)V"⟩
abbrev cX2_fewestToBarred : ByteArray := prog_4_method_2_code
def yX2_fewestToBarred : MethodName := ⟨RX2, "fewestToBarred", "()I"⟩
abbrev cX2_comesToBarredFrom : ByteArray := prog_4_method_3_code
def yX2_comesToBarredFrom : MethodName := ⟨RX2, "comesToBarredFrom", "(IJ)Z"⟩
abbrev cX2_reach : ByteArray := prog_4_method_4_code
def yX2_reach : MethodName := ⟨RX2, "reach", "(II)V"⟩
def RX3 : String := "HeededWishes$Hearing"
def TX3 : u_T := fun k => match k with
  | 0 => ("HeededWishes$Hearing", "house", "LHeededWishes$House;", true)
  | 1 => ("HeededWishes$Hearing", "vocabulary", "LHeededWishes$Vocabulary;", true)
  | 2 => ("HeededWishes$Hearing", "price", "[I", true)
  | 3 => ("HeededWishes$Hearing", "verb", "[I", true)
  | 4 => ("HeededWishes$Hearing", "second", "[I", true)
  | 5 => ("HeededWishes$Hearing", "third", "[I", true)
  | 6 => ("HeededWishes$Hearing", "meant", "[I", true)
  | 7 => ("HeededWishes$Hearing", "isOpen", "[Z", true)
  | 8 => ("HeededWishes$Hearing", "nothingTold", "[I", true)
  | 9 => ("HeededWishes$Hearing", "verbTold", "[I", true)
  | 10 => ("HeededWishes$Hearing", "secondTold", "[I", true)
  | 11 => ("HeededWishes$Hearing", "thirdTold", "[I", true)
  | 12 => ("HeededWishes$Hearing", "heard", "Z", false)
  | 13 => ("HeededWishes$Hearing", "who", "I", false)
  | 14 => ("HeededWishes$Hearing", "rights", "I", false)
  | _ => ("HeededWishes$Hearing", "size", "I", false)
def tyX3 : Nat → FieldType := fun k => match k with
  | 0 => .object "HeededWishes$House"
  | 1 => .object "HeededWishes$Vocabulary"
  | 2 => .array .int
  | 3 => .array .int
  | 4 => .array .int
  | 5 => .array .int
  | 6 => .array .int
  | 7 => .array .boolean
  | 8 => .array .int
  | 9 => .array .int
  | 10 => .array .int
  | 11 => .array .int
  | 12 => .boolean
  | 13 => .int
  | 14 => .int
  | _ => .int
abbrev wsX30 : List Cond := u_ws RX3 TX3 16
theorem nmX3 : ∀ a, a < 16 → ∀ b, b < 16 → a ≠ b → (TX3 a).2.1 ≠ (TX3 b).2.1 := by decide +kernel
theorem tyX3_ok : ∀ k, k < 16 → parseFieldDescriptor (TX3 k).2.2.1 = some (tyX3 k) := by decide +kernel
abbrev cX3_init : ByteArray := prog_5_method_1_code
def yX3_init : MethodName := ⟨RX3, "<init>", "(LHeededWishes$House;LHeededWishes$Vocabulary;)V"⟩
abbrev cX3_begin : ByteArray := prog_5_method_2_code
def yX3_begin : MethodName := ⟨RX3, "begin", "(II)V"⟩
abbrev cX3_end : ByteArray := prog_5_method_3_code
def yX3_end : MethodName := ⟨RX3, "end", "()V"⟩
abbrev cX3_findReadings : ByteArray := prog_5_method_4_code
def yX3_findReadings : MethodName := ⟨RX3, "findReadings", "(I)V"⟩
abbrev cX3_offerWithVerb : ByteArray := prog_5_method_5_code
def yX3_offerWithVerb : MethodName := ⟨RX3, "offerWithVerb", "(II)V"⟩
abbrev cX3_offerWithSort : ByteArray := prog_5_method_6_code
def yX3_offerWithSort : MethodName := ⟨RX3, "offerWithSort", "(III)V"⟩
abbrev cX3_offer : ByteArray := prog_5_method_7_code
def yX3_offer : MethodName := ⟨RX3, "offer", "(IIII)V"⟩
abbrev cX3_findMeant : ByteArray := prog_5_method_8_code
def yX3_findMeant : MethodName := ⟨RX3, "findMeant", "(I)V"⟩
abbrev cX3_thingsNamed : ByteArray := prog_5_method_9_code
def yX3_thingsNamed : MethodName := ⟨RX3, "thingsNamed", "(I)I"⟩
abbrev cX3_findOpen : ByteArray := prog_5_method_10_code
def yX3_findOpen : MethodName := ⟨RX3, "findOpen", "(I)V"⟩
abbrev cX3_tell : ByteArray := prog_5_method_11_code
def yX3_tell : MethodName := ⟨RX3, "tell", "(II)I"⟩
abbrev cX3_unlike : ByteArray := prog_5_method_12_code
def yX3_unlike : MethodName := ⟨RX3, "unlike", "()I"⟩
abbrev cX3_isFirstToDoSo : ByteArray := prog_5_method_13_code
def yX3_isFirstToDoSo : MethodName := ⟨RX3, "isFirstToDoSo", "(I)Z"⟩
abbrev cX3_statesBy : ByteArray := prog_5_method_14_code
def yX3_statesBy : MethodName := ⟨RX3, "statesBy", "(I)I"⟩
abbrev cX3_taken : ByteArray := prog_5_method_15_code
def yX3_taken : MethodName := ⟨RX3, "taken", "()I"⟩
abbrev cX3_partToAsk : ByteArray := prog_5_method_16_code
def yX3_partToAsk : MethodName := ⟨RX3, "partToAsk", "()I"⟩
abbrev cX3_greatestWithOneAnswer : ByteArray := prog_5_method_17_code
def yX3_greatestWithOneAnswer : MethodName := ⟨RX3, "greatestWithOneAnswer", "(I)I"⟩
abbrev cX3_openWith : ByteArray := prog_5_method_18_code
def yX3_openWith : MethodName := ⟨RX3, "openWith", "(II)I"⟩
abbrev cX3_wordAt : ByteArray := prog_5_method_19_code
def yX3_wordAt : MethodName := ⟨RX3, "wordAt", "(II)I"⟩
abbrev cX3_keepOnly : ByteArray := prog_5_method_20_code
def yX3_keepOnly : MethodName := ⟨RX3, "keepOnly", "(II)I"⟩
def RX4 : String := "HeededWishes$House"
def TX4 : u_T := fun k => match k with
  | 0 => ("HeededWishes$House", "roomOf", "[I", true)
  | 1 => ("HeededWishes$House", "sortOf", "[I", true)
  | 2 => ("HeededWishes$House", "costOf", "[I", true)
  | 3 => ("HeededWishes$House", "spent", "[I", true)
  | 4 => ("HeededWishes$House", "reason", "[I", true)
  | 5 => ("HeededWishes$House", "whereIs", "[I", true)
  | 6 => ("HeededWishes$House", "crowd", "[I", true)
  | 7 => ("HeededWishes$House", "things", "I", false)
  | 8 => ("HeededWishes$House", "states", "I", false)
  | _ => ("HeededWishes$House", "hour", "I", false)
def tyX4 : Nat → FieldType := fun k => match k with
  | 0 => .array .int
  | 1 => .array .int
  | 2 => .array .int
  | 3 => .array .int
  | 4 => .array .int
  | 5 => .array .int
  | 6 => .array .int
  | 7 => .int
  | 8 => .int
  | _ => .int
abbrev wsX40 : List Cond := u_ws RX4 TX4 10
theorem nmX4 : ∀ a, a < 10 → ∀ b, b < 10 → a ≠ b → (TX4 a).2.1 ≠ (TX4 b).2.1 := by decide +kernel
theorem tyX4_ok : ∀ k, k < 10 → parseFieldDescriptor (TX4 k).2.2.1 = some (tyX4 k) := by decide +kernel
abbrev cX4_init : ByteArray := prog_6_method_1_code
def yX4_init : MethodName := ⟨RX4, "<init>", "()V"⟩
abbrev cX4_addThing : ByteArray := prog_6_method_2_code
def yX4_addThing : MethodName := ⟨RX4, "addThing", "(III)I"⟩
abbrev cX4_isThing : ByteArray := prog_6_method_3_code
def yX4_isThing : MethodName := ⟨RX4, "isThing", "(I)Z"⟩
abbrev cX4_canBe : ByteArray := prog_6_method_4_code
def yX4_canBe : MethodName := ⟨RX4, "canBe", "(II)Z"⟩
abbrev cX4_move : ByteArray := prog_6_method_5_code
def yX4_move : MethodName := ⟨RX4, "move", "(II)I"⟩
abbrev cX4_change : ByteArray := prog_6_method_6_code
def yX4_change : MethodName := ⟨RX4, "change", "(III)V"⟩
abbrev cX4_thingsUnlike : ByteArray := prog_6_method_7_code
def yX4_thingsUnlike : MethodName := ⟨RX4, "thingsUnlike", "(II)I"⟩
abbrev cX4_thingsThere : ByteArray := prog_6_method_8_code
def yX4_thingsThere : MethodName := ⟨RX4, "thingsThere", "(II)I"⟩
abbrev cX4_thingsThatCanBe : ByteArray := prog_6_method_9_code
def yX4_thingsThatCanBe : MethodName := ⟨RX4, "thingsThatCanBe", "(II)I"⟩
abbrev cX4_passHour : ByteArray := prog_6_method_10_code
def yX4_passHour : MethodName := ⟨RX4, "passHour", "()V"⟩
abbrev cX4_spentInAll : ByteArray := prog_6_method_11_code
def yX4_spentInAll : MethodName := ⟨RX4, "spentInAll", "()I"⟩
def RX5 : String := "HeededWishes$Rules"
def TX5 : u_T := fun k => match k with
  | 0 => ("HeededWishes$Rules", "house", "LHeededWishes$House;", true)
  | 1 => ("HeededWishes$Rules", "text", "[I", true)
  | 2 => ("HeededWishes$Rules", "numbers", "[I", true)
  | 3 => ("HeededWishes$Rules", "letterOf", "[I", true)
  | 4 => ("HeededWishes$Rules", "numbersOf", "[I", true)
  | 5 => ("HeededWishes$Rules", "length", "I", false)
  | _ => ("HeededWishes$Rules", "items", "I", false)
def tyX5 : Nat → FieldType := fun k => match k with
  | 0 => .object "HeededWishes$House"
  | 1 => .array .int
  | 2 => .array .int
  | 3 => .array .int
  | 4 => .array .int
  | 5 => .int
  | _ => .int
abbrev wsX50 : List Cond := u_ws RX5 TX5 7
theorem nmX5 : ∀ a, a < 7 → ∀ b, b < 7 → a ≠ b → (TX5 a).2.1 ≠ (TX5 b).2.1 := by decide +kernel
theorem tyX5_ok : ∀ k, k < 7 → parseFieldDescriptor (TX5 k).2.2.1 = some (tyX5 k) := by decide +kernel
abbrev cX5_init : ByteArray := prog_7_method_1_code
def yX5_init : MethodName := ⟨RX5, "<init>", "(LHeededWishes$House;)V"⟩
abbrev cX5_append : ByteArray := prog_7_method_2_code
def yX5_append : MethodName := ⟨RX5, "append", "(IJ)I"⟩
abbrev cX5_clearText : ByteArray := prog_7_method_3_code
def yX5_clearText : MethodName := ⟨RX5, "clearText", "()I"⟩
abbrev cX5_firstFault : ByteArray := prog_7_method_4_code
def yX5_firstFault : MethodName := ⟨RX5, "firstFault", "()I"⟩
abbrev cX5_putInForce : ByteArray := prog_7_method_5_code
def yX5_putInForce : MethodName := ⟨RX5, "putInForce", "()I"⟩
abbrev cX5_readItem : ByteArray := prog_7_method_6_code
def yX5_readItem : MethodName := ⟨RX5, "readItem", "(I)I"⟩
abbrev cX5_numbersWanted : ByteArray := prog_7_method_7_code
def yX5_numbersWanted : MethodName := ⟨RX5, "numbersWanted", "(I)I"⟩
abbrev cX5_isFigure : ByteArray := prog_7_method_8_code
def yX5_isFigure : MethodName := ⟨RX5, "isFigure", "(I)Z"⟩
abbrev cX5_figuresAt : ByteArray := prog_7_method_9_code
def yX5_figuresAt : MethodName := ⟨RX5, "figuresAt", "(I)I"⟩
abbrev cX5_valueAt : ByteArray := prog_7_method_10_code
def yX5_valueAt : MethodName := ⟨RX5, "valueAt", "(II)I"⟩
abbrev cX5_numbersFit : ByteArray := prog_7_method_11_code
def yX5_numbersFit : MethodName := ⟨RX5, "numbersFit", "(I)Z"⟩
abbrev cX5_isBarrable : ByteArray := prog_7_method_12_code
def yX5_isBarrable : MethodName := ⟨RX5, "isBarrable", "(II)Z"⟩
abbrev cX5_lets : ByteArray := prog_7_method_13_code
def yX5_lets : MethodName := ⟨RX5, "lets", "(III)Z"⟩
abbrev cX5_letsByItem : ByteArray := prog_7_method_14_code
def yX5_letsByItem : MethodName := ⟨RX5, "letsByItem", "(IIII)Z"⟩
abbrev cX5_barring : ByteArray := prog_7_method_15_code
def yX5_barring : MethodName := ⟨RX5, "barring", "(I)J"⟩
abbrev cX5_barsByItem : ByteArray := prog_7_method_16_code
def yX5_barsByItem : MethodName := ⟨RX5, "barsByItem", "(II)Z"⟩
abbrev cX5_barsNewly : ByteArray := prog_7_method_17_code
def yX5_barsNewly : MethodName := ⟨RX5, "barsNewly", "(II)Z"⟩
def RX6 : String := "HeededWishes$Standing"
def TX6 : u_T := fun k => match k with
  | 0 => ("HeededWishes$Standing", "house", "LHeededWishes$House;", true)
  | 1 => ("HeededWishes$Standing", "rules", "LHeededWishes$Rules;", true)
  | 2 => ("HeededWishes$Standing", "waitsFor", "[I", true)
  | 3 => ("HeededWishes$Standing", "waitsTill", "[I", true)
  | 4 => ("HeededWishes$Standing", "turns", "[I", true)
  | 5 => ("HeededWishes$Standing", "into", "[I", true)
  | 6 => ("HeededWishes$Standing", "row", "[I", true)
  | 7 => ("HeededWishes$Standing", "size", "I", false)
  | 8 => ("HeededWishes$Standing", "held", "I", false)
  | _ => ("HeededWishes$Standing", "rowLength", "I", false)
def tyX6 : Nat → FieldType := fun k => match k with
  | 0 => .object "HeededWishes$House"
  | 1 => .object "HeededWishes$Rules"
  | 2 => .array .int
  | 3 => .array .int
  | 4 => .array .int
  | 5 => .array .int
  | 6 => .array .int
  | 7 => .int
  | 8 => .int
  | _ => .int
abbrev wsX60 : List Cond := u_ws RX6 TX6 10
theorem nmX6 : ∀ a, a < 10 → ∀ b, b < 10 → a ≠ b → (TX6 a).2.1 ≠ (TX6 b).2.1 := by decide +kernel
theorem tyX6_ok : ∀ k, k < 10 → parseFieldDescriptor (TX6 k).2.2.1 = some (tyX6 k) := by decide +kernel
abbrev cX6_init : ByteArray := prog_8_method_1_code
def yX6_init : MethodName := ⟨RX6, "<init>", "(LHeededWishes$House;LHeededWishes$Rules;)V"⟩
abbrev cX6_add : ByteArray := prog_8_method_2_code
def yX6_add : MethodName := ⟨RX6, "add", "(IIII)I"⟩
abbrev cX6_clearRow : ByteArray := prog_8_method_3_code
def yX6_clearRow : MethodName := ⟨RX6, "clearRow", "()V"⟩
abbrev cX6_rouse : ByteArray := prog_8_method_4_code
def yX6_rouse : MethodName := ⟨RX6, "rouse", "(II)V"⟩
abbrev cX6_putInRow : ByteArray := prog_8_method_5_code
def yX6_putInRow : MethodName := ⟨RX6, "putInRow", "(I)V"⟩
abbrev cX6_fireAt : ByteArray := prog_8_method_6_code
def yX6_fireAt : MethodName := ⟨RX6, "fireAt", "(I)V"⟩
abbrev cX6_runRow : ByteArray := prog_8_method_7_code
def yX6_runRow : MethodName := ⟨RX6, "runRow", "(I)V"⟩
abbrev cX6_firstQuarrel : ByteArray := prog_8_method_8_code
def yX6_firstQuarrel : MethodName := ⟨RX6, "firstQuarrel", "()I"⟩
abbrev cX6_firstSelfWaker : ByteArray := prog_8_method_9_code
def yX6_firstSelfWaker : MethodName := ⟨RX6, "firstSelfWaker", "()I"⟩
abbrev cX6_allWokenBy : ByteArray := prog_8_method_10_code
def yX6_allWokenBy : MethodName := ⟨RX6, "allWokenBy", "(I)I"⟩
abbrev cX6_wokenAtOnceBy : ByteArray := prog_8_method_11_code
def yX6_wokenAtOnceBy : MethodName := ⟨RX6, "wokenAtOnceBy", "(I)I"⟩
abbrev cX6_firesByHour : ByteArray := prog_8_method_12_code
def yX6_firesByHour : MethodName := ⟨RX6, "firesByHour", "(II)Z"⟩
abbrev cX6_statesByFiring : ByteArray := prog_8_method_13_code
def yX6_statesByFiring : MethodName := ⟨RX6, "statesByFiring", "(IIJ)I"⟩
def RX7 : String := "HeededWishes$Vocabulary"
def TX7 : u_T := fun k => match k with
  | 0 => ("HeededWishes$Vocabulary", "kind", "[I", true)
  | 1 => ("HeededWishes$Vocabulary", "number", "[I", true)
  | 2 => ("HeededWishes$Vocabulary", "soundsIn", "[I", true)
  | 3 => ("HeededWishes$Vocabulary", "sounds", "[I", true)
  | 4 => ("HeededWishes$Vocabulary", "doubts", "[I", true)
  | 5 => ("HeededWishes$Vocabulary", "heard", "[I", true)
  | 6 => ("HeededWishes$Vocabulary", "size", "I", false)
  | _ => ("HeededWishes$Vocabulary", "heardLength", "I", false)
def tyX7 : Nat → FieldType := fun k => match k with
  | 0 => .array .int
  | 1 => .array .int
  | 2 => .array .int
  | 3 => .array .int
  | 4 => .array .int
  | 5 => .array .int
  | 6 => .int
  | _ => .int
abbrev wsX70 : List Cond := u_ws RX7 TX7 8
theorem nmX7 : ∀ a, a < 8 → ∀ b, b < 8 → a ≠ b → (TX7 a).2.1 ≠ (TX7 b).2.1 := by decide +kernel
theorem tyX7_ok : ∀ k, k < 8 → parseFieldDescriptor (TX7 k).2.2.1 = some (tyX7 k) := by decide +kernel
abbrev cX7_init : ByteArray := prog_9_method_1_code
def yX7_init : MethodName := ⟨RX7, "<init>", "()V"⟩
abbrev cX7_setDoubt : ByteArray := prog_9_method_2_code
def yX7_setDoubt : MethodName := ⟨RX7, "setDoubt", "(III)I"⟩
abbrev cX7_addWord : ByteArray := prog_9_method_3_code
def yX7_addWord : MethodName := ⟨RX7, "addWord", "(IIII)I"⟩
abbrev cX7_numberOf : ByteArray := prog_9_method_4_code
def yX7_numberOf : MethodName := ⟨RX7, "numberOf", "(I)I"⟩
abbrev cX7_listen : ByteArray := prog_9_method_5_code
def yX7_listen : MethodName := ⟨RX7, "listen", "(IJ)V"⟩
abbrev cX7_priceNothing : ByteArray := prog_9_method_6_code
def yX7_priceNothing : MethodName := ⟨RX7, "priceNothing", "([I)V"⟩
abbrev cX7_priceWithWord : ByteArray := prog_9_method_7_code
def yX7_priceWithWord : MethodName := ⟨RX7, "priceWithWord", "([I[II)V"⟩
abbrev cX7_priceWithSound : ByteArray := prog_9_method_8_code
def yX7_priceWithSound : MethodName := ⟨RX7, "priceWithSound", "([II)V"⟩
def RX8 : String := "HeededWishes"
def TX8 : u_T := fun k => match k with
  | 0 => ("HeededWishes", "house", "LHeededWishes$House;", true)
  | 1 => ("HeededWishes", "rules", "LHeededWishes$Rules;", true)
  | 2 => ("HeededWishes", "vocabulary", "LHeededWishes$Vocabulary;", true)
  | 3 => ("HeededWishes", "hearing", "LHeededWishes$Hearing;", true)
  | 4 => ("HeededWishes", "deeds", "LHeededWishes$Deeds;", true)
  | 5 => ("HeededWishes", "standing", "LHeededWishes$Standing;", true)
  | 6 => ("HeededWishes", "foresight", "LHeededWishes$Foresight;", true)
  | 7 => ("HeededWishes", "diary", "LHeededWishes$Diary;", true)
  | _ => ("HeededWishes", "bounds", "[I", true)
def tyX8 : Nat → FieldType := fun k => match k with
  | 0 => .object "HeededWishes$House"
  | 1 => .object "HeededWishes$Rules"
  | 2 => .object "HeededWishes$Vocabulary"
  | 3 => .object "HeededWishes$Hearing"
  | 4 => .object "HeededWishes$Deeds"
  | 5 => .object "HeededWishes$Standing"
  | 6 => .object "HeededWishes$Foresight"
  | 7 => .object "HeededWishes$Diary"
  | _ => .array .int
abbrev wsX80 : List Cond := u_ws RX8 TX8 9
theorem nmX8 : ∀ a, a < 9 → ∀ b, b < 9 → a ≠ b → (TX8 a).2.1 ≠ (TX8 b).2.1 := by decide +kernel
theorem tyX8_ok : ∀ k, k < 9 → parseFieldDescriptor (TX8 k).2.2.1 = some (tyX8 k) := by decide +kernel
abbrev cX8_init : ByteArray := prog_1_method_1_code
def yX8_init : MethodName := ⟨RX8, "<init>", "()V"⟩
abbrev cX8_thing : ByteArray := prog_1_method_2_code
def yX8_thing : MethodName := ⟨RX8, "thing", "(III)I"⟩
abbrev cX8_go : ByteArray := prog_1_method_3_code
def yX8_go : MethodName := ⟨RX8, "go", "(II)I"⟩
abbrev cX8_state : ByteArray := prog_1_method_4_code
def yX8_state : MethodName := ⟨RX8, "state", "(I)I"⟩
abbrev cX8_doubt : ByteArray := prog_1_method_5_code
def yX8_doubt : MethodName := ⟨RX8, "doubt", "(III)I"⟩
abbrev cX8_word : ByteArray := prog_1_method_6_code
def yX8_word : MethodName := ⟨RX8, "word", "(IIII)I"⟩
abbrev cX8_rule : ByteArray := prog_1_method_7_code
def yX8_rule : MethodName := ⟨RX8, "rule", "(II)I"⟩
abbrev cX8_write : ByteArray := prog_1_method_8_code
def yX8_write : MethodName := ⟨RX8, "write", "(IJ)I"⟩
abbrev cX8_wipe : ByteArray := prog_1_method_9_code
def yX8_wipe : MethodName := ⟨RX8, "wipe", "()I"⟩
abbrev cX8_fault : ByteArray := prog_1_method_10_code
def yX8_fault : MethodName := ⟨RX8, "fault", "()I"⟩
abbrev cX8_force : ByteArray := prog_1_method_11_code
def yX8_force : MethodName := ⟨RX8, "force", "()I"⟩
abbrev cX8_may : ByteArray := prog_1_method_12_code
def yX8_may : MethodName := ⟨RX8, "may", "(III)I"⟩
abbrev cX8_barred : ByteArray := prog_1_method_13_code
def yX8_barred : MethodName := ⟨RX8, "barred", "()I"⟩
abbrev cX8_hear : ByteArray := prog_1_method_14_code
def yX8_hear : MethodName := ⟨RX8, "hear", "(IIIJ)I"⟩
abbrev cX8_reading : ByteArray := prog_1_method_15_code
def yX8_reading : MethodName := ⟨RX8, "reading", "(II)I"⟩
abbrev cX8_open : ByteArray := prog_1_method_16_code
def yX8_open : MethodName := ⟨RX8, "open", "()I"⟩
abbrev cX8_ask : ByteArray := prog_1_method_17_code
def yX8_ask : MethodName := ⟨RX8, "ask", "()I"⟩
abbrev cX8_answer : ByteArray := prog_1_method_18_code
def yX8_answer : MethodName := ⟨RX8, "answer", "(II)I"⟩
abbrev cX8_done : ByteArray := prog_1_method_19_code
def yX8_done : MethodName := ⟨RX8, "done", "()I"⟩
abbrev cX8_undo : ByteArray := prog_1_method_20_code
def yX8_undo : MethodName := ⟨RX8, "undo", "()I"⟩
abbrev cX8_when : ByteArray := prog_1_method_21_code
def yX8_when : MethodName := ⟨RX8, "when", "(IIII)I"⟩
abbrev cX8_at : ByteArray := prog_1_method_22_code
def yX8_at : MethodName := ⟨RX8, "at", "(III)I"⟩
abbrev cX8_ticks : ByteArray := prog_1_method_23_code
def yX8_ticks : MethodName := ⟨RX8, "ticks", "(I)I"⟩
abbrev cX8_quarrel : ByteArray := prog_1_method_24_code
def yX8_quarrel : MethodName := ⟨RX8, "quarrel", "()I"⟩
abbrev cX8_wake : ByteArray := prog_1_method_25_code
def yX8_wake : MethodName := ⟨RX8, "wake", "()I"⟩
abbrev cX8_show : ByteArray := prog_1_method_26_code
def yX8_show : MethodName := ⟨RX8, "show", "()I"⟩
abbrev cX8_habits : ByteArray := prog_1_method_27_code
def yX8_habits : MethodName := ⟨RX8, "habits", "(III)I"⟩
abbrev cX8_keepHabit : ByteArray := prog_1_method_28_code
def yX8_keepHabit : MethodName := ⟨RX8, "keepHabit", "(I)I"⟩
abbrev cX8_forget : ByteArray := prog_1_method_29_code
def yX8_forget : MethodName := ⟨RX8, "forget", "(I)I"⟩
abbrev cX8_cost : ByteArray := prog_1_method_30_code
def yX8_cost : MethodName := ⟨RX8, "cost", "(I)I"⟩
abbrev cX8_why : ByteArray := prog_1_method_31_code
def yX8_why : MethodName := ⟨RX8, "why", "(I)I"⟩
abbrev cX8_count : ByteArray := prog_1_method_32_code
def yX8_count : MethodName := ⟨RX8, "count", "(I)I"⟩
abbrev cX8_mayTurnAll : ByteArray := prog_1_method_33_code
def yX8_mayTurnAll : MethodName := ⟨RX8, "mayTurnAll", "(II)Z"⟩
abbrev cX8_carryOut : ByteArray := prog_1_method_34_code
def yX8_carryOut : MethodName := ⟨RX8, "carryOut", "(II)I"⟩
abbrev cX8_takeBack : ByteArray := prog_1_method_35_code
def yX8_takeBack : MethodName := ⟨RX8, "takeBack", "(I)I"⟩
abbrev cX8_within : ByteArray := prog_1_method_36_code
def yX8_within : MethodName := ⟨RX8, "within", "(III)Z"⟩
abbrev cX8_fitsSounds : ByteArray := prog_1_method_37_code
def yX8_fitsSounds : MethodName := ⟨RX8, "fitsSounds", "(IJ)Z"⟩
abbrev cX8_isIn : ByteArray := prog_1_method_38_code
def yX8_isIn : MethodName := ⟨RX8, "isIn", "(II)Z"⟩
abbrev cX8_stateIn : ByteArray := prog_1_method_39_code
def yX8_stateIn : MethodName := ⟨RX8, "stateIn", "(II)I"⟩
abbrev cX8_with : ByteArray := prog_1_method_40_code
def yX8_with : MethodName := ⟨RX8, "with", "(III)I"⟩
abbrev cX8_withAll : ByteArray := prog_1_method_41_code
def yX8_withAll : MethodName := ⟨RX8, "withAll", "(III)I"⟩
def RX9 : String := "HeededWishesModel"
def TX9 : u_T := fun k => match k with
  | 0 => ("HeededWishesModel", "thingMany", "I", false)
  | 1 => ("HeededWishesModel", "roomOf", "[I", true)
  | 2 => ("HeededWishesModel", "sortOf", "[I", true)
  | 3 => ("HeededWishesModel", "costOf", "[I", true)
  | 4 => ("HeededWishesModel", "spent", "[I", true)
  | 5 => ("HeededWishesModel", "states", "[I", true)
  | 6 => ("HeededWishesModel", "reasons", "[I", true)
  | 7 => ("HeededWishesModel", "folkRoom", "[I", true)
  | 8 => ("HeededWishesModel", "hour", "I", false)
  | 9 => ("HeededWishesModel", "doubts", "[I", true)
  | 10 => ("HeededWishesModel", "wordMany", "I", false)
  | 11 => ("HeededWishesModel", "kinds", "[I", true)
  | 12 => ("HeededWishesModel", "numbers", "[I", true)
  | 13 => ("HeededWishesModel", "soundMany", "[I", true)
  | 14 => ("HeededWishesModel", "sounds", "[I", true)
  | 15 => ("HeededWishesModel", "rules", "[I", true)
  | 16 => ("HeededWishesModel", "length", "I", false)
  | 17 => ("HeededWishesModel", "text", "[I", true)
  | 18 => ("HeededWishesModel", "itemMany", "[I", true)
  | 19 => ("HeededWishesModel", "items", "[I", true)
  | 20 => ("HeededWishesModel", "isHeard", "Z", false)
  | 21 => ("HeededWishesModel", "speaker", "I", false)
  | 22 => ("HeededWishesModel", "isGuest", "Z", false)
  | 23 => ("HeededWishesModel", "readingMany", "I", false)
  | 24 => ("HeededWishesModel", "prices", "[I", true)
  | 25 => ("HeededWishesModel", "parts", "[I", true)
  | 26 => ("HeededWishesModel", "meant", "[I", true)
  | 27 => ("HeededWishesModel", "isOpen", "[Z", true)
  | 28 => ("HeededWishesModel", "last", "I", false)
  | 29 => ("HeededWishesModel", "doneMany", "I", false)
  | 30 => ("HeededWishesModel", "changed", "[I", true)
  | 31 => ("HeededWishesModel", "ahead", "[I", true)
  | 32 => ("HeededWishesModel", "isBack", "[Z", true)
  | 33 => ("HeededWishesModel", "standMany", "I", false)
  | 34 => ("HeededWishesModel", "stands", "[I", true)
  | 35 => ("HeededWishesModel", "held", "I", false)
  | 36 => ("HeededWishesModel", "logMany", "I", false)
  | 37 => ("HeededWishesModel", "logs", "[I", true)
  | 38 => ("HeededWishesModel", "forgotten", "I", false)
  | 39 => ("HeededWishesModel", "at", "I", false)
  | 40 => ("HeededWishesModel", "told", "[I", true)
  | 41 => ("HeededWishesModel", "bared", "[Z", true)
  | 42 => ("HeededWishesModel", "rowMany", "I", false)
  | 43 => ("HeededWishesModel", "row", "[I", true)
  | 44 => ("HeededWishesModel", "heardMany", "I", false)
  | 45 => ("HeededWishesModel", "heard", "[I", true)
  | 46 => ("HeededWishesModel", "least", "[I", true)
  | 47 => ("HeededWishesModel", "fireMany", "I", false)
  | 48 => ("HeededWishesModel", "fires", "[I", true)
  | 49 => ("HeededWishesModel", "hours", "[I", true)
  | 50 => ("HeededWishesModel", "order", "[I", true)
  | _ => ("HeededWishesModel", "save", "[I", true)
def tyX9 : Nat → FieldType := fun k => match k with
  | 0 => .int
  | 1 => .array .int
  | 2 => .array .int
  | 3 => .array .int
  | 4 => .array .int
  | 5 => .array .int
  | 6 => .array .int
  | 7 => .array .int
  | 8 => .int
  | 9 => .array .int
  | 10 => .int
  | 11 => .array .int
  | 12 => .array .int
  | 13 => .array .int
  | 14 => .array .int
  | 15 => .array .int
  | 16 => .int
  | 17 => .array .int
  | 18 => .array .int
  | 19 => .array .int
  | 20 => .boolean
  | 21 => .int
  | 22 => .boolean
  | 23 => .int
  | 24 => .array .int
  | 25 => .array .int
  | 26 => .array .int
  | 27 => .array .boolean
  | 28 => .int
  | 29 => .int
  | 30 => .array .int
  | 31 => .array .int
  | 32 => .array .boolean
  | 33 => .int
  | 34 => .array .int
  | 35 => .int
  | 36 => .int
  | 37 => .array .int
  | 38 => .int
  | 39 => .int
  | 40 => .array .int
  | 41 => .array .boolean
  | 42 => .int
  | 43 => .array .int
  | 44 => .int
  | 45 => .array .int
  | 46 => .array .int
  | 47 => .int
  | 48 => .array .int
  | 49 => .array .int
  | 50 => .array .int
  | _ => .array .int
abbrev wsX90 : List Cond := u_ws RX9 TX9 52
theorem nmX9 : ∀ a, a < 52 → ∀ b, b < 52 → a ≠ b → (TX9 a).2.1 ≠ (TX9 b).2.1 := by decide +kernel
theorem tyX9_ok : ∀ k, k < 52 → parseFieldDescriptor (TX9 k).2.2.1 = some (tyX9 k) := by decide +kernel
abbrev cX9_init : ByteArray := prog_11_method_1_code
def yX9_init : MethodName := ⟨RX9, "<init>", "()V"⟩
abbrev cX9_in : ByteArray := prog_11_method_2_code
def yX9_in : MethodName := ⟨RX9, "in", "(JJJ)Z"⟩
abbrev cX9_has : ByteArray := prog_11_method_3_code
def yX9_has : MethodName := ⟨RX9, "has", "(II)Z"⟩
abbrev cX9_isThing : ByteArray := prog_11_method_4_code
def yX9_isThing : MethodName := ⟨RX9, "isThing", "(I)Z"⟩
abbrev cX9_greatest : ByteArray := prog_11_method_5_code
def yX9_greatest : MethodName := ⟨RX9, "greatest", "(I)I"⟩
abbrev cX9_thing : ByteArray := prog_11_method_6_code
def yX9_thing : MethodName := ⟨RX9, "thing", "(III)I"⟩
abbrev cX9_go : ByteArray := prog_11_method_7_code
def yX9_go : MethodName := ⟨RX9, "go", "(II)I"⟩
abbrev cX9_state : ByteArray := prog_11_method_8_code
def yX9_state : MethodName := ⟨RX9, "state", "(I)I"⟩
abbrev cX9_doubt : ByteArray := prog_11_method_9_code
def yX9_doubt : MethodName := ⟨RX9, "doubt", "(III)I"⟩
abbrev cX9_word : ByteArray := prog_11_method_10_code
def yX9_word : MethodName := ⟨RX9, "word", "(IIII)I"⟩
abbrev cX9_rule : ByteArray := prog_11_method_11_code
def yX9_rule : MethodName := ⟨RX9, "rule", "(II)I"⟩
abbrev cX9_write : ByteArray := prog_11_method_12_code
def yX9_write : MethodName := ⟨RX9, "write", "(IJ)I"⟩
abbrev cX9_wipe : ByteArray := prog_11_method_13_code
def yX9_wipe : MethodName := ⟨RX9, "wipe", "()I"⟩
abbrev cX9_figures : ByteArray := prog_11_method_14_code
def yX9_figures : MethodName := ⟨RX9, "figures", "(I)Z"⟩
abbrev cX9_item : ByteArray := prog_11_method_15_code
def yX9_item : MethodName := ⟨RX9, "item", "()Z"⟩
abbrev cX9_readAll : ByteArray := prog_11_method_16_code
def yX9_readAll : MethodName := ⟨RX9, "readAll", "()I"⟩
abbrev cX9_fault : ByteArray := prog_11_method_17_code
def yX9_fault : MethodName := ⟨RX9, "fault", "()I"⟩
abbrev cX9_force : ByteArray := prog_11_method_18_code
def yX9_force : MethodName := ⟨RX9, "force", "()I"⟩
abbrev cX9_mayTurn : ByteArray := prog_11_method_19_code
def yX9_mayTurn : MethodName := ⟨RX9, "mayTurn", "(III)Z"⟩
abbrev cX9_may : ByteArray := prog_11_method_20_code
def yX9_may : MethodName := ⟨RX9, "may", "(III)I"⟩
abbrev cX9_stateOf : ByteArray := prog_11_method_21_code
def yX9_stateOf : MethodName := ⟨RX9, "stateOf", "(I)I"⟩
abbrev cX9_bars : ByteArray := prog_11_method_22_code
def yX9_bars : MethodName := ⟨RX9, "bars", "(I)Z"⟩
abbrev cX9_layBars : ByteArray := prog_11_method_23_code
def yX9_layBars : MethodName := ⟨RX9, "layBars", "()V"⟩
abbrev cX9_newBar : ByteArray := prog_11_method_24_code
def yX9_newBar : MethodName := ⟨RX9, "newBar", "()Z"⟩
abbrev cX9_barred : ByteArray := prog_11_method_25_code
def yX9_barred : MethodName := ⟨RX9, "barred", "()I"⟩
abbrev cX9_addWord : ByteArray := prog_11_method_26_code
def yX9_addWord : MethodName := ⟨RX9, "addWord", "(I)V"⟩
abbrev cX9_less : ByteArray := prog_11_method_27_code
def yX9_less : MethodName := ⟨RX9, "less", "(II)I"⟩
abbrev cX9_priceOf : ByteArray := prog_11_method_28_code
def yX9_priceOf : MethodName := ⟨RX9, "priceOf", "(III)I"⟩
abbrev cX9_meaning : ByteArray := prog_11_method_29_code
def yX9_meaning : MethodName := ⟨RX9, "meaning", "(III)I"⟩
abbrev cX9_take : ByteArray := prog_11_method_30_code
def yX9_take : MethodName := ⟨RX9, "take", "(III)V"⟩
abbrev cX9_layReadings : ByteArray := prog_11_method_31_code
def yX9_layReadings : MethodName := ⟨RX9, "layReadings", "()V"⟩
abbrev cX9_hear : ByteArray := prog_11_method_32_code
def yX9_hear : MethodName := ⟨RX9, "hear", "(IIIJ)I"⟩
abbrev cX9_reading : ByteArray := prog_11_method_33_code
def yX9_reading : MethodName := ⟨RX9, "reading", "(II)I"⟩
abbrev cX9_outcome : ByteArray := prog_11_method_34_code
def yX9_outcome : MethodName := ⟨RX9, "outcome", "(I)I"⟩
abbrev cX9_unlikeMany : ByteArray := prog_11_method_35_code
def yX9_unlikeMany : MethodName := ⟨RX9, "unlikeMany", "()I"⟩
abbrev cX9_open : ByteArray := prog_11_method_36_code
def yX9_open : MethodName := ⟨RX9, "open", "()I"⟩
abbrev cX9_ask : ByteArray := prog_11_method_37_code
def yX9_ask : MethodName := ⟨RX9, "ask", "()I"⟩
abbrev cX9_answer : ByteArray := prog_11_method_38_code
def yX9_answer : MethodName := ⟨RX9, "answer", "(II)I"⟩
abbrev cX9_wakeBy : ByteArray := prog_11_method_39_code
def yX9_wakeBy : MethodName := ⟨RX9, "wakeBy", "(I)V"⟩
abbrev cX9_fire : ByteArray := prog_11_method_40_code
def yX9_fire : MethodName := ⟨RX9, "fire", "(I)V"⟩
abbrev cX9_log : ByteArray := prog_11_method_41_code
def yX9_log : MethodName := ⟨RX9, "log", "(II)V"⟩
abbrev cX9_done : ByteArray := prog_11_method_42_code
def yX9_done : MethodName := ⟨RX9, "done", "()I"⟩
abbrev cX9_undo : ByteArray := prog_11_method_43_code
def yX9_undo : MethodName := ⟨RX9, "undo", "()I"⟩
abbrev cX9_isState : ByteArray := prog_11_method_44_code
def yX9_isState : MethodName := ⟨RX9, "isState", "(II)Z"⟩
abbrev cX9_stand : ByteArray := prog_11_method_45_code
def yX9_stand : MethodName := ⟨RX9, "stand", "(IIIII)I"⟩
abbrev cX9_when : ByteArray := prog_11_method_46_code
def yX9_when : MethodName := ⟨RX9, "when", "(IIII)I"⟩
abbrev cX9_at : ByteArray := prog_11_method_47_code
def yX9_at : MethodName := ⟨RX9, "at", "(III)I"⟩
abbrev cX9_ticks : ByteArray := prog_11_method_48_code
def yX9_ticks : MethodName := ⟨RX9, "ticks", "(I)I"⟩
abbrev cX9_quarrel : ByteArray := prog_11_method_49_code
def yX9_quarrel : MethodName := ⟨RX9, "quarrel", "()I"⟩
abbrev cX9_wakes : ByteArray := prog_11_method_50_code
def yX9_wakes : MethodName := ⟨RX9, "wakes", "(I)I"⟩
abbrev cX9_wake : ByteArray := prog_11_method_51_code
def yX9_wake : MethodName := ⟨RX9, "wake", "()I"⟩
abbrev cX9_bringsBar : ByteArray := prog_11_method_52_code
def yX9_bringsBar : MethodName := ⟨RX9, "bringsBar", "(I)Z"⟩
abbrev cX9_restore : ByteArray := prog_11_method_53_code
def yX9_restore : MethodName := ⟨RX9, "restore", "(I)V"⟩
abbrev cX9_shows : ByteArray := prog_11_method_54_code
def yX9_shows : MethodName := ⟨RX9, "shows", "(II)Z"⟩
abbrev cX9_bitsOf : ByteArray := prog_11_method_55_code
def yX9_bitsOf : MethodName := ⟨RX9, "bitsOf", "(I)I"⟩
abbrev cX9_show : ByteArray := prog_11_method_56_code
def yX9_show : MethodName := ⟨RX9, "show", "()I"⟩
abbrev cX9_daysOf : ByteArray := prog_11_method_57_code
def yX9_daysOf : MethodName := ⟨RX9, "daysOf", "(IIII)I"⟩
abbrev cX9_habits : ByteArray := prog_11_method_58_code
def yX9_habits : MethodName := ⟨RX9, "habits", "(III)I"⟩
abbrev cX9_keepHabit : ByteArray := prog_11_method_59_code
def yX9_keepHabit : MethodName := ⟨RX9, "keepHabit", "(I)I"⟩
abbrev cX9_forget : ByteArray := prog_11_method_60_code
def yX9_forget : MethodName := ⟨RX9, "forget", "(I)I"⟩
abbrev cX9_cost : ByteArray := prog_11_method_61_code
def yX9_cost : MethodName := ⟨RX9, "cost", "(I)I"⟩
abbrev cX9_why : ByteArray := prog_11_method_62_code
def yX9_why : MethodName := ⟨RX9, "why", "(I)I"⟩
abbrev cX9_count : ByteArray := prog_11_method_63_code
def yX9_count : MethodName := ⟨RX9, "count", "(I)I"⟩
def RJ6 : String := "java/lang/Integer"
def TJ6 : u_T := fun k => match k with
  | _ => ("", "", "", false)
def tyJ6 : Nat → FieldType := fun k => match k with
  | _ => .int
abbrev wsJ60 : List Cond := u_ws RJ6 TJ6 0
theorem nmJ6 : ∀ a, a < 0 → ∀ b, b < 0 → a ≠ b → (TJ6 a).2.1 ≠ (TJ6 b).2.1 := by decide +kernel
theorem tyJ6_ok : ∀ k, k < 0 → parseFieldDescriptor (TJ6 k).2.2.1 = some (tyJ6 k) := by decide +kernel
abbrev cJ6_bitCount_0f7a4 : ByteArray := prog_12_method_49_code
def yJ6_bitCount_0f7a4 : MethodName := ⟨RJ6, "bitCount", "(I)I"⟩
def RJ13 : String := "java/lang/Long"
def TJ13 : u_T := fun k => match k with
  | _ => ("", "", "", false)
def tyJ13 : Nat → FieldType := fun k => match k with
  | _ => .int
abbrev wsJ130 : List Cond := u_ws RJ13 TJ13 0
theorem nmJ13 : ∀ a, a < 0 → ∀ b, b < 0 → a ≠ b → (TJ13 a).2.1 ≠ (TJ13 b).2.1 := by decide +kernel
theorem tyJ13_ok : ∀ k, k < 0 → parseFieldDescriptor (TJ13 k).2.2.1 = some (tyJ13 k) := by decide +kernel
abbrev cJ13_bitCount_95d88 : ByteArray := prog_13_method_50_code
def yJ13_bitCount_95d88 : MethodName := ⟨RJ13, "bitCount", "(J)I"⟩
def RJ9 : String := "java/lang/Math"
def TJ9 : u_T := fun k => match k with
  | _ => ("", "", "", false)
def tyJ9 : Nat → FieldType := fun k => match k with
  | _ => .int
abbrev wsJ90 : List Cond := u_ws RJ9 TJ9 0
theorem nmJ9 : ∀ a, a < 0 → ∀ b, b < 0 → a ≠ b → (TJ9 a).2.1 ≠ (TJ9 b).2.1 := by decide +kernel
theorem tyJ9_ok : ∀ k, k < 0 → parseFieldDescriptor (TJ9 k).2.2.1 = some (tyJ9 k) := by decide +kernel
abbrev cJ9_max_7cf53 : ByteArray := prog_14_method_65_code
def yJ9_max_7cf53 : MethodName := ⟨RJ9, "max", "(II)I"⟩
abbrev cJ9_min_7cf53 : ByteArray := prog_14_method_69_code
def yJ9_min_7cf53 : MethodName := ⟨RJ9, "min", "(II)I"⟩
def RJ10 : String := "java/lang/System"
def TJ10 : u_T := fun k => match k with
  | _ => ("", "", "", false)
def tyJ10 : Nat → FieldType := fun k => match k with
  | _ => .int
abbrev wsJ100 : List Cond := u_ws RJ10 TJ10 0
theorem nmJ10 : ∀ a, a < 0 → ∀ b, b < 0 → a ≠ b → (TJ10 a).2.1 ≠ (TJ10 b).2.1 := by decide +kernel
theorem tyJ10_ok : ∀ k, k < 0 → parseFieldDescriptor (TJ10 k).2.2.1 = some (tyJ10 k) := by decide +kernel
def RJ7 : String := "java/util/Arrays"
def TJ7 : u_T := fun k => match k with
  | _ => ("", "", "", false)
def tyJ7 : Nat → FieldType := fun k => match k with
  | _ => .int
abbrev wsJ70 : List Cond := u_ws RJ7 TJ7 0
theorem nmJ7 : ∀ a, a < 0 → ∀ b, b < 0 → a ≠ b → (TJ7 a).2.1 ≠ (TJ7 b).2.1 := by decide +kernel
theorem tyJ7_ok : ∀ k, k < 0 → parseFieldDescriptor (TJ7 k).2.2.1 = some (tyJ7 k) := by decide +kernel
abbrev cJ7_fill_53178 : ByteArray := prog_16_method_103_code
def yJ7_fill_53178 : MethodName := ⟨RJ7, "fill", "([II)V"⟩
def RL : String := "HeededWishesLaw"
abbrev cL_law : ByteArray := code
def yL_law : MethodName := ⟨RL, "law", "([I)Z"⟩
abbrev vwCl : List vw_C := [(RX0, TX0, 5), (RX1, TX1, 8), (RX2, TX2, 8), (RX3, TX3, 16), (RX4, TX4, 10), (RX5, TX5, 7), (RX6, TX6, 10), (RX7, TX7, 8), (RX8, TX8, 9), (RX9, TX9, 52)]
end
section
/-! the words: those of the tables that a callee may be handed -/
def UL : List Cond := lw_tbl.filter goodWord
theorem ul_hts {args : Array Value} {s : State} (hts : ∀ w ∈ lw_tbl, w.before args s = true) : ∀ w ∈ UL, w.before args s = true := fun w h => hts w (List.mem_filter.mp h).1
theorem ul_good : ∀ w ∈ UL, ((w.onTables && w.keeps) = true ∨ ∃ ty, w = .arrayClass ty) := fun w h => good_of_word (List.mem_filter.mp h).2
theorem ul_t {w : Cond} (h : w ∈ tables_1) (g : goodWord w = true) : w ∈ UL := List.mem_filter.mpr ⟨List.mem_append_right _ h, g⟩
theorem ul_in1 {w : Cond} (h : w ∈ tables_1_1) (g : goodWord w = true) : w ∈ UL := ul_t (List.mem_append_left _ h) g
theorem ul_in2 {w : Cond} (h : w ∈ tables_1_2) (g : goodWord w = true) : w ∈ UL := ul_t (List.mem_append_right _ (List.mem_append_left _ h)) g
theorem ul_in3 {w : Cond} (h : w ∈ tables_1_3) (g : goodWord w = true) : w ∈ UL := ul_t (List.mem_append_right _ (List.mem_append_right _ (List.mem_append_left _ h))) g
theorem ul_in4 {w : Cond} (h : w ∈ tables_1_4) (g : goodWord w = true) : w ∈ UL := ul_t (List.mem_append_right _ (List.mem_append_right _ (List.mem_append_right _ (List.mem_append_left _ h)))) g
theorem ul_in5 {w : Cond} (h : w ∈ tables_1_5) (g : goodWord w = true) : w ∈ UL := ul_t (List.mem_append_right _ (List.mem_append_right _ (List.mem_append_right _ (List.mem_append_right _ (List.mem_append_left _ h))))) g
theorem ul_in6 {w : Cond} (h : w ∈ tables_1_6) (g : goodWord w = true) : w ∈ UL := ul_t (List.mem_append_right _ (List.mem_append_right _ (List.mem_append_right _ (List.mem_append_right _ (List.mem_append_right _ (h)))))) g
theorem ul_sel {y : MethodName} {n : Nat} (h : (y, n) ∈ lw_privs) (g : goodWord (Cond.selects y.cls y y) = true) : Cond.selects y.cls y y ∈ UL := List.mem_filter.mpr ⟨List.mem_append_left _ (List.mem_map.mpr ⟨(y, n), h, rfl⟩), g⟩
theorem ul_1_0 : Cond.initialized RL ∈ UL := ul_in1 (List.mem_of_getElem? (i := 0) rfl) rfl
theorem ul_1_1 : Cond.initialized RX8 ∈ UL := ul_in1 (List.mem_of_getElem? (i := 1) rfl) rfl
theorem ul_1_2 : Cond.initialized RX4 ∈ UL := ul_in1 (List.mem_of_getElem? (i := 2) rfl) rfl
theorem ul_1_3 : Cond.initialized RJ7 ∈ UL := ul_in1 (List.mem_of_getElem? (i := 3) rfl) rfl
theorem ul_1_4 : Cond.initialized RX5 ∈ UL := ul_in1 (List.mem_of_getElem? (i := 4) rfl) rfl
theorem ul_1_5 : Cond.initialized RX7 ∈ UL := ul_in1 (List.mem_of_getElem? (i := 5) rfl) rfl
theorem ul_1_6 : Cond.initialized RX3 ∈ UL := ul_in1 (List.mem_of_getElem? (i := 6) rfl) rfl
theorem ul_1_7 : Cond.initialized RX0 ∈ UL := ul_in1 (List.mem_of_getElem? (i := 7) rfl) rfl
theorem ul_1_8 : Cond.initialized RX6 ∈ UL := ul_in1 (List.mem_of_getElem? (i := 8) rfl) rfl
theorem ul_1_9 : Cond.initialized RX2 ∈ UL := ul_in1 (List.mem_of_getElem? (i := 9) rfl) rfl
theorem ul_1_10 : Cond.initialized RX1 ∈ UL := ul_in1 (List.mem_of_getElem? (i := 10) rfl) rfl
theorem ul_1_11 : Cond.initialized RX9 ∈ UL := ul_in1 (List.mem_of_getElem? (i := 11) rfl) rfl
theorem ul_1_12 : Cond.initialized RJ10 ∈ UL := ul_in1 (List.mem_of_getElem? (i := 12) rfl) rfl
theorem ul_1_13 : Cond.initialized RJ13 ∈ UL := ul_in1 (List.mem_of_getElem? (i := 13) rfl) rfl
theorem ul_1_14 : Cond.initialized RJ9 ∈ UL := ul_in1 (List.mem_of_getElem? (i := 14) rfl) rfl
theorem ul_1_15 : Cond.initialized RJ6 ∈ UL := ul_in1 (List.mem_of_getElem? (i := 15) rfl) rfl
theorem ul_1_16 : Cond.classLink RL 7 RX8 ∈ UL := ul_in1 (List.mem_of_getElem? (i := 16) rfl) rfl
theorem ul_1_17 : Cond.instantiable RX8 9 ∈ UL := ul_in1 (List.mem_of_getElem? (i := 17) rfl) rfl
theorem ul_1_18 : Cond.methodLink RL 9 yX8_init ∈ UL := ul_in1 (List.mem_of_getElem? (i := 18) rfl) rfl
theorem ul_1_19 : Cond.instanceMethod yX8_init ∈ UL := ul_in1 (List.mem_of_getElem? (i := 19) rfl) rfl
theorem ul_1_20 : Cond.code yX8_init cX8_init 1 none ∈ UL := ul_in1 (List.mem_of_getElem? (i := 20) rfl) rfl
theorem ul_1_21 : Cond.methodLink RX8 1 objectInit ∈ UL := ul_in1 (List.mem_of_getElem? (i := 21) rfl) rfl
theorem ul_1_22 : Cond.instanceMethod objectInit ∈ UL := ul_in1 (List.mem_of_getElem? (i := 22) rfl) rfl
theorem ul_1_24 : Cond.classLink RX8 7 RX4 ∈ UL := ul_in1 (List.mem_of_getElem? (i := 24) rfl) rfl
theorem ul_1_25 : Cond.instantiable RX4 10 ∈ UL := ul_in1 (List.mem_of_getElem? (i := 25) rfl) rfl
theorem ul_1_26 : Cond.methodLink RX8 9 yX4_init ∈ UL := ul_in1 (List.mem_of_getElem? (i := 26) rfl) rfl
theorem ul_1_27 : Cond.instanceMethod yX4_init ∈ UL := ul_in1 (List.mem_of_getElem? (i := 27) rfl) rfl
theorem ul_1_28 : Cond.code yX4_init cX4_init 1 none ∈ UL := ul_in1 (List.mem_of_getElem? (i := 28) rfl) rfl
theorem ul_1_29 : Cond.methodLink RX4 3 objectInit ∈ UL := ul_in1 (List.mem_of_getElem? (i := 29) rfl) rfl
theorem ul_1_30 : Cond.methodLink RX4 33 yJ7_fill_53178 ∈ UL := ul_in1 (List.mem_of_getElem? (i := 30) rfl) rfl
theorem ul_1_31 : Cond.static yJ7_fill_53178 ∈ UL := ul_in1 (List.mem_of_getElem? (i := 31) rfl) rfl
theorem ul_1_32 : Cond.code yJ7_fill_53178 cJ7_fill_53178 4 none ∈ UL := ul_in1 (List.mem_of_getElem? (i := 32) rfl) rfl
theorem ul_1_33 : Cond.fieldLink RX4 9 "HeededWishes$House" "roomOf" "[I" ∈ UL := ul_in1 (List.mem_of_getElem? (i := 33) rfl) rfl
theorem ul_1_34 : Cond.fieldLink RX5 83 "HeededWishes$House" "roomOf" "[I" ∈ UL := ul_in1 (List.mem_of_getElem? (i := 34) rfl) rfl
theorem ul_1_35 : Cond.fieldLink RX4 15 "HeededWishes$House" "sortOf" "[I" ∈ UL := ul_in1 (List.mem_of_getElem? (i := 35) rfl) rfl
theorem ul_1_36 : Cond.fieldLink RX5 78 "HeededWishes$House" "sortOf" "[I" ∈ UL := ul_in1 (List.mem_of_getElem? (i := 36) rfl) rfl
theorem ul_1_37 : Cond.fieldLink RX4 18 "HeededWishes$House" "costOf" "[I" ∈ UL := ul_in1 (List.mem_of_getElem? (i := 37) rfl) rfl
theorem ul_1_38 : Cond.fieldLink RX4 21 "HeededWishes$House" "spent" "[I" ∈ UL := ul_in1 (List.mem_of_getElem? (i := 38) rfl) rfl
theorem ul_1_39 : Cond.fieldLink RX8 266 "HeededWishes$House" "spent" "[I" ∈ UL := ul_in1 (List.mem_of_getElem? (i := 39) rfl) rfl
theorem ul_1_40 : Cond.fieldLink RX4 24 "HeededWishes$House" "reason" "[I" ∈ UL := ul_in1 (List.mem_of_getElem? (i := 40) rfl) rfl
theorem ul_1_41 : Cond.fieldLink RX8 269 "HeededWishes$House" "reason" "[I" ∈ UL := ul_in1 (List.mem_of_getElem? (i := 41) rfl) rfl
theorem ul_1_42 : Cond.fieldLink RX4 27 "HeededWishes$House" "whereIs" "[I" ∈ UL := ul_in1 (List.mem_of_getElem? (i := 42) rfl) rfl
theorem ul_1_43 : Cond.fieldLink RX3 107 "HeededWishes$House" "whereIs" "[I" ∈ UL := ul_in1 (List.mem_of_getElem? (i := 43) rfl) rfl
theorem ul_1_44 : Cond.fieldLink RX8 144 "HeededWishes$House" "whereIs" "[I" ∈ UL := ul_in1 (List.mem_of_getElem? (i := 44) rfl) rfl
theorem ul_1_45 : Cond.fieldLink RX4 30 "HeededWishes$House" "crowd" "[I" ∈ UL := ul_in1 (List.mem_of_getElem? (i := 45) rfl) rfl
theorem ul_1_46 : Cond.fieldLink RX5 92 "HeededWishes$House" "crowd" "[I" ∈ UL := ul_in1 (List.mem_of_getElem? (i := 46) rfl) rfl
theorem ul_1_47 : Cond.fieldLink RX4 39 "HeededWishes$House" "things" "I" ∈ UL := ul_in1 (List.mem_of_getElem? (i := 47) rfl) rfl
theorem ul_1_48 : Cond.fieldLink RX8 272 "HeededWishes$House" "things" "I" ∈ UL := ul_in1 (List.mem_of_getElem? (i := 48) rfl) rfl
theorem ul_1_49 : Cond.fieldLink RX2 42 "HeededWishes$House" "states" "I" ∈ UL := ul_in1 (List.mem_of_getElem? (i := 49) rfl) rfl
theorem ul_1_50 : Cond.fieldLink RX8 93 "HeededWishes$House" "states" "I" ∈ UL := ul_in1 (List.mem_of_getElem? (i := 50) rfl) rfl
theorem ul_1_51 : Cond.fieldLink RX4 50 "HeededWishes$House" "states" "I" ∈ UL := ul_in1 (List.mem_of_getElem? (i := 51) rfl) rfl
theorem ul_1_52 : Cond.fieldLink RX6 56 "HeededWishes$House" "states" "I" ∈ UL := ul_in1 (List.mem_of_getElem? (i := 52) rfl) rfl
theorem ul_1_53 : Cond.fieldLink RX3 120 "HeededWishes$House" "states" "I" ∈ UL := ul_in1 (List.mem_of_getElem? (i := 53) rfl) rfl
theorem ul_1_54 : Cond.fieldLink RX4 68 "HeededWishes$House" "hour" "I" ∈ UL := ul_in1 (List.mem_of_getElem? (i := 54) rfl) rfl
theorem ul_1_55 : Cond.fieldLink RX8 236 "HeededWishes$House" "hour" "I" ∈ UL := ul_in1 (List.mem_of_getElem? (i := 55) rfl) rfl
theorem ul_1_78 : Cond.classLink RX8 16 RX5 ∈ UL := ul_in1 (List.mem_of_getElem? (i := 78) rfl) rfl
theorem ul_1_79 : Cond.instantiable RX5 7 ∈ UL := ul_in1 (List.mem_of_getElem? (i := 79) rfl) rfl
theorem ul_1_80 : Cond.methodLink RX8 18 yX5_init ∈ UL := ul_in1 (List.mem_of_getElem? (i := 80) rfl) rfl
theorem ul_1_81 : Cond.instanceMethod yX5_init ∈ UL := ul_in1 (List.mem_of_getElem? (i := 81) rfl) rfl
theorem ul_1_82 : Cond.code yX5_init cX5_init 2 none ∈ UL := ul_in1 (List.mem_of_getElem? (i := 82) rfl) rfl
theorem ul_1_83 : Cond.methodLink RX5 3 objectInit ∈ UL := ul_in1 (List.mem_of_getElem? (i := 83) rfl) rfl
theorem ul_1_84 : Cond.fieldLink RX5 24 "HeededWishes$Rules" "house" "LHeededWishes$House;" ∈ UL := ul_in1 (List.mem_of_getElem? (i := 84) rfl) rfl
theorem ul_1_85 : Cond.fieldLink RX5 9 "HeededWishes$Rules" "text" "[I" ∈ UL := ul_in1 (List.mem_of_getElem? (i := 85) rfl) rfl
theorem ul_1_86 : Cond.fieldLink RX5 15 "HeededWishes$Rules" "numbers" "[I" ∈ UL := ul_in1 (List.mem_of_getElem? (i := 86) rfl) rfl
theorem ul_1_87 : Cond.fieldLink RX5 18 "HeededWishes$Rules" "letterOf" "[I" ∈ UL := ul_in1 (List.mem_of_getElem? (i := 87) rfl) rfl
theorem ul_1_88 : Cond.fieldLink RX5 21 "HeededWishes$Rules" "numbersOf" "[I" ∈ UL := ul_in1 (List.mem_of_getElem? (i := 88) rfl) rfl
theorem ul_1_89 : Cond.fieldLink RX5 28 "HeededWishes$Rules" "length" "I" ∈ UL := ul_in1 (List.mem_of_getElem? (i := 89) rfl) rfl
theorem ul_1_90 : Cond.fieldLink RX8 275 "HeededWishes$Rules" "length" "I" ∈ UL := ul_in1 (List.mem_of_getElem? (i := 90) rfl) rfl
theorem ul_1_91 : Cond.fieldLink RX2 36 "HeededWishes$Rules" "items" "I" ∈ UL := ul_in1 (List.mem_of_getElem? (i := 91) rfl) rfl
theorem ul_1_92 : Cond.fieldLink RX5 40 "HeededWishes$Rules" "items" "I" ∈ UL := ul_in1 (List.mem_of_getElem? (i := 92) rfl) rfl
theorem ul_1_93 : Cond.fieldLink RX8 278 "HeededWishes$Rules" "items" "I" ∈ UL := ul_in1 (List.mem_of_getElem? (i := 93) rfl) rfl
theorem ul_1_109 : Cond.classLink RX8 25 RX7 ∈ UL := ul_in1 (List.mem_of_getElem? (i := 109) rfl) rfl
theorem ul_1_110 : Cond.instantiable RX7 8 ∈ UL := ul_in1 (List.mem_of_getElem? (i := 110) rfl) rfl
theorem ul_1_111 : Cond.methodLink RX8 27 yX7_init ∈ UL := ul_in1 (List.mem_of_getElem? (i := 111) rfl) rfl
theorem ul_1_112 : Cond.instanceMethod yX7_init ∈ UL := ul_in1 (List.mem_of_getElem? (i := 112) rfl) rfl
theorem ul_1_113 : Cond.code yX7_init cX7_init 2 none ∈ UL := ul_in1 (List.mem_of_getElem? (i := 113) rfl) rfl
theorem ul_1_114 : Cond.methodLink RX7 3 objectInit ∈ UL := ul_in1 (List.mem_of_getElem? (i := 114) rfl) rfl
theorem ul_1_115 : Cond.methodLink RX7 30 yJ7_fill_53178 ∈ UL := ul_in1 (List.mem_of_getElem? (i := 115) rfl) rfl
theorem ul_1_116 : Cond.fieldLink RX7 9 "HeededWishes$Vocabulary" "kind" "[I" ∈ UL := ul_in1 (List.mem_of_getElem? (i := 116) rfl) rfl
theorem ul_1_117 : Cond.fieldLink RX3 72 "HeededWishes$Vocabulary" "kind" "[I" ∈ UL := ul_in1 (List.mem_of_getElem? (i := 117) rfl) rfl
theorem ul_1_118 : Cond.fieldLink RX7 15 "HeededWishes$Vocabulary" "number" "[I" ∈ UL := ul_in1 (List.mem_of_getElem? (i := 118) rfl) rfl
theorem ul_1_119 : Cond.fieldLink RX7 18 "HeededWishes$Vocabulary" "soundsIn" "[I" ∈ UL := ul_in1 (List.mem_of_getElem? (i := 119) rfl) rfl
theorem ul_1_120 : Cond.fieldLink RX7 21 "HeededWishes$Vocabulary" "sounds" "[I" ∈ UL := ul_in1 (List.mem_of_getElem? (i := 120) rfl) rfl
theorem ul_1_121 : Cond.fieldLink RX7 24 "HeededWishes$Vocabulary" "doubts" "[I" ∈ UL := ul_in1 (List.mem_of_getElem? (i := 121) rfl) rfl
theorem ul_1_122 : Cond.fieldLink RX7 27 "HeededWishes$Vocabulary" "heard" "[I" ∈ UL := ul_in1 (List.mem_of_getElem? (i := 122) rfl) rfl
theorem ul_1_123 : Cond.fieldLink RX7 36 "HeededWishes$Vocabulary" "size" "I" ∈ UL := ul_in1 (List.mem_of_getElem? (i := 123) rfl) rfl
theorem ul_1_124 : Cond.fieldLink RX3 71 "HeededWishes$Vocabulary" "size" "I" ∈ UL := ul_in1 (List.mem_of_getElem? (i := 124) rfl) rfl
theorem ul_1_125 : Cond.fieldLink RX8 184 "HeededWishes$Vocabulary" "size" "I" ∈ UL := ul_in1 (List.mem_of_getElem? (i := 125) rfl) rfl
theorem ul_1_126 : Cond.fieldLink RX7 40 "HeededWishes$Vocabulary" "heardLength" "I" ∈ UL := ul_in1 (List.mem_of_getElem? (i := 126) rfl) rfl
theorem ul_1_127 : Cond.fieldLink RX3 83 "HeededWishes$Vocabulary" "heardLength" "I" ∈ UL := ul_in1 (List.mem_of_getElem? (i := 127) rfl) rfl
theorem ul_1_145 : Cond.classLink RX8 32 RX3 ∈ UL := ul_in1 (List.mem_of_getElem? (i := 145) rfl) rfl
theorem ul_1_146 : Cond.instantiable RX3 16 ∈ UL := ul_in1 (List.mem_of_getElem? (i := 146) rfl) rfl
theorem ul_1_147 : Cond.methodLink RX8 34 yX3_init ∈ UL := ul_in1 (List.mem_of_getElem? (i := 147) rfl) rfl
theorem ul_1_148 : Cond.instanceMethod yX3_init ∈ UL := ul_in1 (List.mem_of_getElem? (i := 148) rfl) rfl
theorem ul_1_149 : Cond.code yX3_init cX3_init 3 none ∈ UL := ul_in1 (List.mem_of_getElem? (i := 149) rfl) rfl
theorem ul_1_150 : Cond.methodLink RX3 3 objectInit ∈ UL := ul_in1 (List.mem_of_getElem? (i := 150) rfl) rfl
theorem ul_1_151 : Cond.fieldLink RX3 43 "HeededWishes$Hearing" "house" "LHeededWishes$House;" ∈ UL := ul_in1 (List.mem_of_getElem? (i := 151) rfl) rfl
theorem ul_1_152 : Cond.fieldLink RX3 47 "HeededWishes$Hearing" "vocabulary" "LHeededWishes$Vocabulary;" ∈ UL := ul_in1 (List.mem_of_getElem? (i := 152) rfl) rfl
theorem ul_1_153 : Cond.fieldLink RX3 9 "HeededWishes$Hearing" "price" "[I" ∈ UL := ul_in1 (List.mem_of_getElem? (i := 153) rfl) rfl
theorem ul_1_154 : Cond.fieldLink RX3 15 "HeededWishes$Hearing" "verb" "[I" ∈ UL := ul_in1 (List.mem_of_getElem? (i := 154) rfl) rfl
theorem ul_1_155 : Cond.fieldLink RX8 202 "HeededWishes$Hearing" "verb" "[I" ∈ UL := ul_in1 (List.mem_of_getElem? (i := 155) rfl) rfl
theorem ul_1_156 : Cond.fieldLink RX3 18 "HeededWishes$Hearing" "second" "[I" ∈ UL := ul_in1 (List.mem_of_getElem? (i := 156) rfl) rfl
theorem ul_1_157 : Cond.fieldLink RX3 21 "HeededWishes$Hearing" "third" "[I" ∈ UL := ul_in1 (List.mem_of_getElem? (i := 157) rfl) rfl
theorem ul_1_158 : Cond.fieldLink RX3 24 "HeededWishes$Hearing" "meant" "[I" ∈ UL := ul_in1 (List.mem_of_getElem? (i := 158) rfl) rfl
theorem ul_1_159 : Cond.fieldLink RX8 191 "HeededWishes$Hearing" "meant" "[I" ∈ UL := ul_in1 (List.mem_of_getElem? (i := 159) rfl) rfl
theorem ul_1_160 : Cond.fieldLink RX3 27 "HeededWishes$Hearing" "isOpen" "[Z" ∈ UL := ul_in1 (List.mem_of_getElem? (i := 160) rfl) rfl
theorem ul_1_161 : Cond.fieldLink RX3 31 "HeededWishes$Hearing" "nothingTold" "[I" ∈ UL := ul_in1 (List.mem_of_getElem? (i := 161) rfl) rfl
theorem ul_1_162 : Cond.fieldLink RX3 34 "HeededWishes$Hearing" "verbTold" "[I" ∈ UL := ul_in1 (List.mem_of_getElem? (i := 162) rfl) rfl
theorem ul_1_163 : Cond.fieldLink RX3 37 "HeededWishes$Hearing" "secondTold" "[I" ∈ UL := ul_in1 (List.mem_of_getElem? (i := 163) rfl) rfl
theorem ul_1_164 : Cond.fieldLink RX3 40 "HeededWishes$Hearing" "thirdTold" "[I" ∈ UL := ul_in1 (List.mem_of_getElem? (i := 164) rfl) rfl
theorem ul_1_165 : Cond.fieldLink RX3 51 "HeededWishes$Hearing" "heard" "Z" ∈ UL := ul_in1 (List.mem_of_getElem? (i := 165) rfl) rfl
theorem ul_1_166 : Cond.fieldLink RX8 174 "HeededWishes$Hearing" "heard" "Z" ∈ UL := ul_in1 (List.mem_of_getElem? (i := 166) rfl) rfl
theorem ul_1_167 : Cond.fieldLink RX3 55 "HeededWishes$Hearing" "who" "I" ∈ UL := ul_in1 (List.mem_of_getElem? (i := 167) rfl) rfl
theorem ul_1_168 : Cond.fieldLink RX8 300 "HeededWishes$Hearing" "who" "I" ∈ UL := ul_in1 (List.mem_of_getElem? (i := 168) rfl) rfl
theorem ul_1_169 : Cond.fieldLink RX3 59 "HeededWishes$Hearing" "rights" "I" ∈ UL := ul_in1 (List.mem_of_getElem? (i := 169) rfl) rfl
theorem ul_1_170 : Cond.fieldLink RX8 194 "HeededWishes$Hearing" "rights" "I" ∈ UL := ul_in1 (List.mem_of_getElem? (i := 170) rfl) rfl
theorem ul_1_171 : Cond.fieldLink RX3 62 "HeededWishes$Hearing" "size" "I" ∈ UL := ul_in1 (List.mem_of_getElem? (i := 171) rfl) rfl
theorem ul_1_172 : Cond.fieldLink RX8 168 "HeededWishes$Hearing" "size" "I" ∈ UL := ul_in1 (List.mem_of_getElem? (i := 172) rfl) rfl
theorem ul_1_207 : Cond.classLink RX8 41 RX0 ∈ UL := ul_in1 (List.mem_of_getElem? (i := 207) rfl) rfl
theorem ul_1_208 : Cond.instantiable RX0 5 ∈ UL := ul_in1 (List.mem_of_getElem? (i := 208) rfl) rfl
theorem ul_1_210 : Cond.instanceMethod yX0_init ∈ UL := ul_in1 (List.mem_of_getElem? (i := 210) rfl) rfl
theorem ul_1_211 : Cond.code yX0_init cX0_init 1 none ∈ UL := ul_in1 (List.mem_of_getElem? (i := 211) rfl) rfl
theorem ul_1_212 : Cond.methodLink RX0 3 objectInit ∈ UL := ul_in1 (List.mem_of_getElem? (i := 212) rfl) rfl
theorem ul_1_213 : Cond.fieldLink RX0 9 "HeededWishes$Deeds" "changed" "[I" ∈ UL := ul_in1 (List.mem_of_getElem? (i := 213) rfl) rfl
theorem ul_1_214 : Cond.fieldLink RX8 324 "HeededWishes$Deeds" "changed" "[I" ∈ UL := ul_in1 (List.mem_of_getElem? (i := 214) rfl) rfl
theorem ul_1_215 : Cond.fieldLink RX0 15 "HeededWishes$Deeds" "statesAhead" "[I" ∈ UL := ul_in1 (List.mem_of_getElem? (i := 215) rfl) rfl
theorem ul_1_216 : Cond.fieldLink RX8 327 "HeededWishes$Deeds" "statesAhead" "[I" ∈ UL := ul_in1 (List.mem_of_getElem? (i := 216) rfl) rfl
theorem ul_1_217 : Cond.fieldLink RX0 18 "HeededWishes$Deeds" "back" "[Z" ∈ UL := ul_in1 (List.mem_of_getElem? (i := 217) rfl) rfl
theorem ul_1_218 : Cond.fieldLink RX8 320 "HeededWishes$Deeds" "back" "[Z" ∈ UL := ul_in1 (List.mem_of_getElem? (i := 218) rfl) rfl
theorem ul_1_219 : Cond.fieldLink RX0 22 "HeededWishes$Deeds" "size" "I" ∈ UL := ul_in1 (List.mem_of_getElem? (i := 219) rfl) rfl
theorem ul_1_220 : Cond.fieldLink RX8 201 "HeededWishes$Deeds" "size" "I" ∈ UL := ul_in1 (List.mem_of_getElem? (i := 220) rfl) rfl
theorem ul_1_221 : Cond.fieldLink RX0 26 "HeededWishes$Deeds" "lastMeant" "I" ∈ UL := ul_in1 (List.mem_of_getElem? (i := 221) rfl) rfl
theorem ul_1_222 : Cond.fieldLink RX8 159 "HeededWishes$Deeds" "lastMeant" "I" ∈ UL := ul_in1 (List.mem_of_getElem? (i := 222) rfl) rfl
theorem ul_1_234 : Cond.classLink RX8 48 RX6 ∈ UL := ul_in1 (List.mem_of_getElem? (i := 234) rfl) rfl
theorem ul_1_235 : Cond.instantiable RX6 10 ∈ UL := ul_in1 (List.mem_of_getElem? (i := 235) rfl) rfl
theorem ul_1_236 : Cond.methodLink RX8 50 yX6_init ∈ UL := ul_in1 (List.mem_of_getElem? (i := 236) rfl) rfl
theorem ul_1_237 : Cond.instanceMethod yX6_init ∈ UL := ul_in1 (List.mem_of_getElem? (i := 237) rfl) rfl
theorem ul_1_238 : Cond.code yX6_init cX6_init 3 none ∈ UL := ul_in1 (List.mem_of_getElem? (i := 238) rfl) rfl
theorem ul_1_239 : Cond.methodLink RX6 3 objectInit ∈ UL := ul_in1 (List.mem_of_getElem? (i := 239) rfl) rfl
theorem ul_2_0 : Cond.fieldLink RX6 27 "HeededWishes$Standing" "house" "LHeededWishes$House;" ∈ UL := ul_in2 (List.mem_of_getElem? (i := 0) rfl) rfl
theorem ul_2_1 : Cond.fieldLink RX6 31 "HeededWishes$Standing" "rules" "LHeededWishes$Rules;" ∈ UL := ul_in2 (List.mem_of_getElem? (i := 1) rfl) rfl
theorem ul_2_2 : Cond.fieldLink RX6 9 "HeededWishes$Standing" "waitsFor" "[I" ∈ UL := ul_in2 (List.mem_of_getElem? (i := 2) rfl) rfl
theorem ul_2_3 : Cond.fieldLink RX6 15 "HeededWishes$Standing" "waitsTill" "[I" ∈ UL := ul_in2 (List.mem_of_getElem? (i := 3) rfl) rfl
theorem ul_2_4 : Cond.fieldLink RX6 18 "HeededWishes$Standing" "turns" "[I" ∈ UL := ul_in2 (List.mem_of_getElem? (i := 4) rfl) rfl
theorem ul_2_5 : Cond.fieldLink RX6 21 "HeededWishes$Standing" "into" "[I" ∈ UL := ul_in2 (List.mem_of_getElem? (i := 5) rfl) rfl
theorem ul_2_6 : Cond.fieldLink RX6 24 "HeededWishes$Standing" "row" "[I" ∈ UL := ul_in2 (List.mem_of_getElem? (i := 6) rfl) rfl
theorem ul_2_7 : Cond.fieldLink RX6 35 "HeededWishes$Standing" "size" "I" ∈ UL := ul_in2 (List.mem_of_getElem? (i := 7) rfl) rfl
theorem ul_2_8 : Cond.fieldLink RX2 74 "HeededWishes$Standing" "size" "I" ∈ UL := ul_in2 (List.mem_of_getElem? (i := 8) rfl) rfl
theorem ul_2_9 : Cond.fieldLink RX8 281 "HeededWishes$Standing" "size" "I" ∈ UL := ul_in2 (List.mem_of_getElem? (i := 9) rfl) rfl
theorem ul_2_10 : Cond.fieldLink RX6 71 "HeededWishes$Standing" "held" "I" ∈ UL := ul_in2 (List.mem_of_getElem? (i := 10) rfl) rfl
theorem ul_2_11 : Cond.fieldLink RX8 282 "HeededWishes$Standing" "held" "I" ∈ UL := ul_in2 (List.mem_of_getElem? (i := 11) rfl) rfl
theorem ul_2_12 : Cond.fieldLink RX6 39 "HeededWishes$Standing" "rowLength" "I" ∈ UL := ul_in2 (List.mem_of_getElem? (i := 12) rfl) rfl
theorem ul_2_34 : Cond.classLink RX8 57 RX2 ∈ UL := ul_in2 (List.mem_of_getElem? (i := 34) rfl) rfl
theorem ul_2_35 : Cond.instantiable RX2 8 ∈ UL := ul_in2 (List.mem_of_getElem? (i := 35) rfl) rfl
theorem ul_2_36 : Cond.methodLink RX8 59 yX2_init ∈ UL := ul_in2 (List.mem_of_getElem? (i := 36) rfl) rfl
theorem ul_2_37 : Cond.instanceMethod yX2_init ∈ UL := ul_in2 (List.mem_of_getElem? (i := 37) rfl) rfl
theorem ul_2_38 : Cond.code yX2_init cX2_init 4 none ∈ UL := ul_in2 (List.mem_of_getElem? (i := 38) rfl) rfl
theorem ul_2_39 : Cond.methodLink RX2 3 objectInit ∈ UL := ul_in2 (List.mem_of_getElem? (i := 39) rfl) rfl
theorem ul_2_40 : Cond.fieldLink RX2 24 "HeededWishes$Foresight" "house" "LHeededWishes$House;" ∈ UL := ul_in2 (List.mem_of_getElem? (i := 40) rfl) rfl
theorem ul_2_41 : Cond.fieldLink RX2 28 "HeededWishes$Foresight" "rules" "LHeededWishes$Rules;" ∈ UL := ul_in2 (List.mem_of_getElem? (i := 41) rfl) rfl
theorem ul_2_42 : Cond.fieldLink RX2 32 "HeededWishes$Foresight" "standing" "LHeededWishes$Standing;" ∈ UL := ul_in2 (List.mem_of_getElem? (i := 42) rfl) rfl
theorem ul_2_43 : Cond.fieldLink RX2 11 "HeededWishes$Foresight" "firedAt" "[I" ∈ UL := ul_in2 (List.mem_of_getElem? (i := 43) rfl) rfl
theorem ul_2_44 : Cond.fieldLink RX2 15 "HeededWishes$Foresight" "statesAt" "[I" ∈ UL := ul_in2 (List.mem_of_getElem? (i := 44) rfl) rfl
theorem ul_2_45 : Cond.fieldLink RX2 18 "HeededWishes$Foresight" "placeAhead" "[I" ∈ UL := ul_in2 (List.mem_of_getElem? (i := 45) rfl) rfl
theorem ul_2_46 : Cond.fieldLink RX2 21 "HeededWishes$Foresight" "lastPlaceWith" "[I" ∈ UL := ul_in2 (List.mem_of_getElem? (i := 46) rfl) rfl
theorem ul_2_47 : Cond.fieldLink RX2 57 "HeededWishes$Foresight" "reached" "I" ∈ UL := ul_in2 (List.mem_of_getElem? (i := 47) rfl) rfl
theorem ul_2_65 : Cond.classLink RX8 66 RX1 ∈ UL := ul_in2 (List.mem_of_getElem? (i := 65) rfl) rfl
theorem ul_2_66 : Cond.instantiable RX1 8 ∈ UL := ul_in2 (List.mem_of_getElem? (i := 66) rfl) rfl
theorem ul_2_68 : Cond.instanceMethod yX1_init ∈ UL := ul_in2 (List.mem_of_getElem? (i := 68) rfl) rfl
theorem ul_2_69 : Cond.code yX1_init cX1_init 1 none ∈ UL := ul_in2 (List.mem_of_getElem? (i := 69) rfl) rfl
theorem ul_2_70 : Cond.methodLink RX1 3 objectInit ∈ UL := ul_in2 (List.mem_of_getElem? (i := 70) rfl) rfl
theorem ul_2_71 : Cond.fieldLink RX1 9 "HeededWishes$Diary" "who" "[I" ∈ UL := ul_in2 (List.mem_of_getElem? (i := 71) rfl) rfl
theorem ul_2_72 : Cond.fieldLink RX1 15 "HeededWishes$Diary" "day" "[I" ∈ UL := ul_in2 (List.mem_of_getElem? (i := 72) rfl) rfl
theorem ul_2_73 : Cond.fieldLink RX1 18 "HeededWishes$Diary" "hourOfDay" "[I" ∈ UL := ul_in2 (List.mem_of_getElem? (i := 73) rfl) rfl
theorem ul_2_74 : Cond.fieldLink RX1 21 "HeededWishes$Diary" "thing" "[I" ∈ UL := ul_in2 (List.mem_of_getElem? (i := 74) rfl) rfl
theorem ul_2_75 : Cond.fieldLink RX1 24 "HeededWishes$Diary" "state" "[I" ∈ UL := ul_in2 (List.mem_of_getElem? (i := 75) rfl) rfl
theorem ul_2_76 : Cond.fieldLink RX1 27 "HeededWishes$Diary" "daysOf" "[I" ∈ UL := ul_in2 (List.mem_of_getElem? (i := 76) rfl) rfl
theorem ul_2_77 : Cond.fieldLink RX1 30 "HeededWishes$Diary" "size" "I" ∈ UL := ul_in2 (List.mem_of_getElem? (i := 77) rfl) rfl
theorem ul_2_78 : Cond.fieldLink RX8 285 "HeededWishes$Diary" "size" "I" ∈ UL := ul_in2 (List.mem_of_getElem? (i := 78) rfl) rfl
theorem ul_2_79 : Cond.fieldLink RX1 41 "HeededWishes$Diary" "forgotten" "I" ∈ UL := ul_in2 (List.mem_of_getElem? (i := 79) rfl) rfl
theorem ul_2_80 : Cond.fieldLink RX8 286 "HeededWishes$Diary" "forgotten" "I" ∈ UL := ul_in2 (List.mem_of_getElem? (i := 80) rfl) rfl
theorem ul_2_98 : Cond.fieldLink RX8 10 "HeededWishes" "house" "LHeededWishes$House;" ∈ UL := ul_in2 (List.mem_of_getElem? (i := 98) rfl) rfl
theorem ul_2_99 : Cond.fieldLink RX8 21 "HeededWishes" "rules" "LHeededWishes$Rules;" ∈ UL := ul_in2 (List.mem_of_getElem? (i := 99) rfl) rfl
theorem ul_2_100 : Cond.fieldLink RX8 28 "HeededWishes" "vocabulary" "LHeededWishes$Vocabulary;" ∈ UL := ul_in2 (List.mem_of_getElem? (i := 100) rfl) rfl
theorem ul_2_101 : Cond.fieldLink RX8 37 "HeededWishes" "hearing" "LHeededWishes$Hearing;" ∈ UL := ul_in2 (List.mem_of_getElem? (i := 101) rfl) rfl
theorem ul_2_102 : Cond.fieldLink RX8 44 "HeededWishes" "deeds" "LHeededWishes$Deeds;" ∈ UL := ul_in2 (List.mem_of_getElem? (i := 102) rfl) rfl
theorem ul_2_103 : Cond.fieldLink RX8 53 "HeededWishes" "standing" "LHeededWishes$Standing;" ∈ UL := ul_in2 (List.mem_of_getElem? (i := 103) rfl) rfl
theorem ul_2_104 : Cond.fieldLink RX8 62 "HeededWishes" "foresight" "LHeededWishes$Foresight;" ∈ UL := ul_in2 (List.mem_of_getElem? (i := 104) rfl) rfl
theorem ul_2_105 : Cond.fieldLink RX8 69 "HeededWishes" "diary" "LHeededWishes$Diary;" ∈ UL := ul_in2 (List.mem_of_getElem? (i := 105) rfl) rfl
theorem ul_2_106 : Cond.fieldLink RX8 73 "HeededWishes" "bounds" "[I" ∈ UL := ul_in2 (List.mem_of_getElem? (i := 106) rfl) rfl
theorem ul_2_126 : Cond.methodLink RL 13 yX8_thing ∈ UL := ul_in2 (List.mem_of_getElem? (i := 126) rfl) rfl
theorem ul_2_127 : Cond.instanceMethod yX8_thing ∈ UL := ul_in2 (List.mem_of_getElem? (i := 127) rfl) rfl
theorem ul_2_128 : Cond.selects RX8 yX8_thing yX8_thing ∈ UL := ul_in2 (List.mem_of_getElem? (i := 128) rfl) rfl
theorem ul_2_129 : Cond.code yX8_thing cX8_thing 4 (some .int) ∈ UL := ul_in2 (List.mem_of_getElem? (i := 129) rfl) rfl
theorem ul_2_130 : Cond.methodLink RX8 77 yX8_within ∈ UL := ul_in2 (List.mem_of_getElem? (i := 130) rfl) rfl
theorem ul_2_131 : Cond.static yX8_within ∈ UL := ul_in2 (List.mem_of_getElem? (i := 131) rfl) rfl
theorem ul_2_132 : Cond.code yX8_within cX8_within 3 (some .boolean) ∈ UL := ul_in2 (List.mem_of_getElem? (i := 132) rfl) rfl
theorem ul_2_133 : Cond.methodLink RX8 81 yX4_addThing ∈ UL := ul_in2 (List.mem_of_getElem? (i := 133) rfl) rfl
theorem ul_2_134 : Cond.instanceMethod yX4_addThing ∈ UL := ul_in2 (List.mem_of_getElem? (i := 134) rfl) rfl
theorem ul_2_135 : Cond.selects RX4 yX4_addThing yX4_addThing ∈ UL := ul_in2 (List.mem_of_getElem? (i := 135) rfl) rfl
theorem ul_2_136 : Cond.code yX4_addThing cX4_addThing 4 (some .int) ∈ UL := ul_in2 (List.mem_of_getElem? (i := 136) rfl) rfl
theorem ul_2_137 : Cond.methodLink RL 18 yX8_go ∈ UL := ul_in2 (List.mem_of_getElem? (i := 137) rfl) rfl
theorem ul_2_138 : Cond.instanceMethod yX8_go ∈ UL := ul_in2 (List.mem_of_getElem? (i := 138) rfl) rfl
theorem ul_2_139 : Cond.selects RX8 yX8_go yX8_go ∈ UL := ul_in2 (List.mem_of_getElem? (i := 139) rfl) rfl
theorem ul_2_140 : Cond.code yX8_go cX8_go 3 (some .int) ∈ UL := ul_in2 (List.mem_of_getElem? (i := 140) rfl) rfl
theorem ul_2_141 : Cond.methodLink RX8 85 yX4_move ∈ UL := ul_in2 (List.mem_of_getElem? (i := 141) rfl) rfl
theorem ul_2_142 : Cond.instanceMethod yX4_move ∈ UL := ul_in2 (List.mem_of_getElem? (i := 142) rfl) rfl
theorem ul_2_143 : Cond.selects RX4 yX4_move yX4_move ∈ UL := ul_in2 (List.mem_of_getElem? (i := 143) rfl) rfl
theorem ul_2_144 : Cond.code yX4_move cX4_move 4 (some .int) ∈ UL := ul_in2 (List.mem_of_getElem? (i := 144) rfl) rfl
theorem ul_2_145 : Cond.methodLink RL 23 yX8_state ∈ UL := ul_in2 (List.mem_of_getElem? (i := 145) rfl) rfl
theorem ul_2_146 : Cond.instanceMethod yX8_state ∈ UL := ul_in2 (List.mem_of_getElem? (i := 146) rfl) rfl
theorem ul_2_147 : Cond.selects RX8 yX8_state yX8_state ∈ UL := ul_in2 (List.mem_of_getElem? (i := 147) rfl) rfl
theorem ul_2_148 : Cond.code yX8_state cX8_state 2 (some .int) ∈ UL := ul_in2 (List.mem_of_getElem? (i := 148) rfl) rfl
theorem ul_2_149 : Cond.methodLink RX8 89 yX4_isThing ∈ UL := ul_in2 (List.mem_of_getElem? (i := 149) rfl) rfl
theorem ul_2_150 : Cond.instanceMethod yX4_isThing ∈ UL := ul_in2 (List.mem_of_getElem? (i := 150) rfl) rfl
theorem ul_2_151 : Cond.selects RX4 yX4_isThing yX4_isThing ∈ UL := ul_in2 (List.mem_of_getElem? (i := 151) rfl) rfl
theorem ul_2_152 : Cond.code yX4_isThing cX4_isThing 2 (some .boolean) ∈ UL := ul_in2 (List.mem_of_getElem? (i := 152) rfl) rfl
theorem ul_2_153 : Cond.methodLink RX8 97 yX8_stateIn ∈ UL := ul_in2 (List.mem_of_getElem? (i := 153) rfl) rfl
theorem ul_2_154 : Cond.static yX8_stateIn ∈ UL := ul_in2 (List.mem_of_getElem? (i := 154) rfl) rfl
theorem ul_2_155 : Cond.code yX8_stateIn cX8_stateIn 2 (some .int) ∈ UL := ul_in2 (List.mem_of_getElem? (i := 155) rfl) rfl
theorem ul_2_156 : Cond.methodLink RL 28 yX8_doubt ∈ UL := ul_in2 (List.mem_of_getElem? (i := 156) rfl) rfl
theorem ul_2_157 : Cond.instanceMethod yX8_doubt ∈ UL := ul_in2 (List.mem_of_getElem? (i := 157) rfl) rfl
theorem ul_2_158 : Cond.selects RX8 yX8_doubt yX8_doubt ∈ UL := ul_in2 (List.mem_of_getElem? (i := 158) rfl) rfl
theorem ul_2_159 : Cond.code yX8_doubt cX8_doubt 4 (some .int) ∈ UL := ul_in2 (List.mem_of_getElem? (i := 159) rfl) rfl
theorem ul_2_160 : Cond.methodLink RX8 100 yX7_setDoubt ∈ UL := ul_in2 (List.mem_of_getElem? (i := 160) rfl) rfl
theorem ul_2_161 : Cond.instanceMethod yX7_setDoubt ∈ UL := ul_in2 (List.mem_of_getElem? (i := 161) rfl) rfl
theorem ul_2_162 : Cond.selects RX7 yX7_setDoubt yX7_setDoubt ∈ UL := ul_in2 (List.mem_of_getElem? (i := 162) rfl) rfl
theorem ul_2_163 : Cond.code yX7_setDoubt cX7_setDoubt 6 (some .int) ∈ UL := ul_in2 (List.mem_of_getElem? (i := 163) rfl) rfl
theorem ul_2_164 : Cond.methodLink RL 32 yX8_word ∈ UL := ul_in2 (List.mem_of_getElem? (i := 164) rfl) rfl
theorem ul_2_165 : Cond.instanceMethod yX8_word ∈ UL := ul_in2 (List.mem_of_getElem? (i := 165) rfl) rfl
theorem ul_2_166 : Cond.selects RX8 yX8_word yX8_word ∈ UL := ul_in2 (List.mem_of_getElem? (i := 166) rfl) rfl
theorem ul_2_167 : Cond.code yX8_word cX8_word 5 (some .int) ∈ UL := ul_in2 (List.mem_of_getElem? (i := 167) rfl) rfl
theorem ul_2_168 : Cond.fieldLink RX8 103 "HeededWishes" "NUMBERS_OF_KIND" "[I" ∈ UL := ul_in2 (List.mem_of_getElem? (i := 168) rfl) rfl
theorem ul_2_170 : Cond.methodLink RX8 106 yX8_fitsSounds ∈ UL := ul_in2 (List.mem_of_getElem? (i := 170) rfl) rfl
theorem ul_2_171 : Cond.static yX8_fitsSounds ∈ UL := ul_in2 (List.mem_of_getElem? (i := 171) rfl) rfl
theorem ul_2_172 : Cond.code yX8_fitsSounds cX8_fitsSounds 3 (some .boolean) ∈ UL := ul_in2 (List.mem_of_getElem? (i := 172) rfl) rfl
theorem ul_2_173 : Cond.methodLink RX8 110 yX7_addWord ∈ UL := ul_in2 (List.mem_of_getElem? (i := 173) rfl) rfl
theorem ul_2_174 : Cond.instanceMethod yX7_addWord ∈ UL := ul_in2 (List.mem_of_getElem? (i := 174) rfl) rfl
theorem ul_2_175 : Cond.selects RX7 yX7_addWord yX7_addWord ∈ UL := ul_in2 (List.mem_of_getElem? (i := 175) rfl) rfl
theorem ul_2_176 : Cond.code yX7_addWord cX7_addWord 6 (some .int) ∈ UL := ul_in2 (List.mem_of_getElem? (i := 176) rfl) rfl
theorem ul_2_177 : Cond.methodLink RL 37 yX8_rule ∈ UL := ul_in2 (List.mem_of_getElem? (i := 177) rfl) rfl
theorem ul_2_178 : Cond.instanceMethod yX8_rule ∈ UL := ul_in2 (List.mem_of_getElem? (i := 178) rfl) rfl
theorem ul_2_179 : Cond.selects RX8 yX8_rule yX8_rule ∈ UL := ul_in2 (List.mem_of_getElem? (i := 179) rfl) rfl
theorem ul_2_180 : Cond.code yX8_rule cX8_rule 4 (some .int) ∈ UL := ul_in2 (List.mem_of_getElem? (i := 180) rfl) rfl
theorem ul_2_181 : Cond.fieldLink RX8 114 "HeededWishes" "TOP_OF_BOUND" "[I" ∈ UL := ul_in2 (List.mem_of_getElem? (i := 181) rfl) rfl
theorem ul_2_183 : Cond.methodLink RL 43 yX8_write ∈ UL := ul_in2 (List.mem_of_getElem? (i := 183) rfl) rfl
theorem ul_2_184 : Cond.instanceMethod yX8_write ∈ UL := ul_in2 (List.mem_of_getElem? (i := 184) rfl) rfl
theorem ul_2_185 : Cond.selects RX8 yX8_write yX8_write ∈ UL := ul_in2 (List.mem_of_getElem? (i := 185) rfl) rfl
theorem ul_2_186 : Cond.code yX8_write cX8_write 4 (some .int) ∈ UL := ul_in2 (List.mem_of_getElem? (i := 186) rfl) rfl
theorem ul_2_187 : Cond.methodLink RX8 117 yX5_append ∈ UL := ul_in2 (List.mem_of_getElem? (i := 187) rfl) rfl
theorem ul_2_188 : Cond.instanceMethod yX5_append ∈ UL := ul_in2 (List.mem_of_getElem? (i := 188) rfl) rfl
theorem ul_2_189 : Cond.selects RX5 yX5_append yX5_append ∈ UL := ul_in2 (List.mem_of_getElem? (i := 189) rfl) rfl
theorem ul_2_190 : Cond.code yX5_append cX5_append 5 (some .int) ∈ UL := ul_in2 (List.mem_of_getElem? (i := 190) rfl) rfl
theorem ul_2_191 : Cond.methodLink RL 48 yX8_wipe ∈ UL := ul_in2 (List.mem_of_getElem? (i := 191) rfl) rfl
theorem ul_2_192 : Cond.instanceMethod yX8_wipe ∈ UL := ul_in2 (List.mem_of_getElem? (i := 192) rfl) rfl
theorem ul_2_193 : Cond.selects RX8 yX8_wipe yX8_wipe ∈ UL := ul_in2 (List.mem_of_getElem? (i := 193) rfl) rfl
theorem ul_2_194 : Cond.code yX8_wipe cX8_wipe 1 (some .int) ∈ UL := ul_in2 (List.mem_of_getElem? (i := 194) rfl) rfl
theorem ul_2_195 : Cond.methodLink RX8 121 yX5_clearText ∈ UL := ul_in2 (List.mem_of_getElem? (i := 195) rfl) rfl
theorem ul_2_196 : Cond.instanceMethod yX5_clearText ∈ UL := ul_in2 (List.mem_of_getElem? (i := 196) rfl) rfl
theorem ul_2_197 : Cond.selects RX5 yX5_clearText yX5_clearText ∈ UL := ul_in2 (List.mem_of_getElem? (i := 197) rfl) rfl
theorem ul_2_198 : Cond.code yX5_clearText cX5_clearText 2 (some .int) ∈ UL := ul_in2 (List.mem_of_getElem? (i := 198) rfl) rfl
theorem ul_2_199 : Cond.methodLink RL 53 yX8_fault ∈ UL := ul_in2 (List.mem_of_getElem? (i := 199) rfl) rfl
theorem ul_2_200 : Cond.instanceMethod yX8_fault ∈ UL := ul_in2 (List.mem_of_getElem? (i := 200) rfl) rfl
theorem ul_2_201 : Cond.selects RX8 yX8_fault yX8_fault ∈ UL := ul_in2 (List.mem_of_getElem? (i := 201) rfl) rfl
theorem ul_2_202 : Cond.code yX8_fault cX8_fault 1 (some .int) ∈ UL := ul_in2 (List.mem_of_getElem? (i := 202) rfl) rfl
theorem ul_2_203 : Cond.methodLink RX8 125 yX5_firstFault ∈ UL := ul_in2 (List.mem_of_getElem? (i := 203) rfl) rfl
theorem ul_2_204 : Cond.instanceMethod yX5_firstFault ∈ UL := ul_in2 (List.mem_of_getElem? (i := 204) rfl) rfl
theorem ul_2_205 : Cond.selects RX5 yX5_firstFault yX5_firstFault ∈ UL := ul_in2 (List.mem_of_getElem? (i := 205) rfl) rfl
theorem ul_2_206 : Cond.code yX5_firstFault cX5_firstFault 4 (some .int) ∈ UL := ul_in2 (List.mem_of_getElem? (i := 206) rfl) rfl
theorem ul_2_207 : Cond.methodLink RX5 32 yX5_readItem ∈ UL := ul_in2 (List.mem_of_getElem? (i := 207) rfl) rfl
theorem ul_2_209 : Cond.instanceMethod yX5_readItem ∈ UL := ul_in2 (List.mem_of_getElem? (i := 209) rfl) rfl
theorem ul_2_210 : Cond.code yX5_readItem cX5_readItem 7 (some .int) ∈ UL := ul_in2 (List.mem_of_getElem? (i := 210) rfl) rfl
theorem ul_2_211 : Cond.methodLink RX5 49 yX5_numbersWanted ∈ UL := ul_in2 (List.mem_of_getElem? (i := 211) rfl) rfl
theorem ul_2_212 : Cond.static yX5_numbersWanted ∈ UL := ul_in2 (List.mem_of_getElem? (i := 212) rfl) rfl
theorem ul_2_213 : Cond.code yX5_numbersWanted cX5_numbersWanted 1 (some .int) ∈ UL := ul_in2 (List.mem_of_getElem? (i := 213) rfl) rfl
theorem ul_2_214 : Cond.methodLink RX5 52 yX5_figuresAt ∈ UL := ul_in2 (List.mem_of_getElem? (i := 214) rfl) rfl
theorem ul_2_216 : Cond.instanceMethod yX5_figuresAt ∈ UL := ul_in2 (List.mem_of_getElem? (i := 216) rfl) rfl
theorem ul_2_217 : Cond.code yX5_figuresAt cX5_figuresAt 2 (some .int) ∈ UL := ul_in2 (List.mem_of_getElem? (i := 217) rfl) rfl
theorem ul_2_218 : Cond.methodLink RX5 63 yX5_isFigure ∈ UL := ul_in2 (List.mem_of_getElem? (i := 218) rfl) rfl
theorem ul_2_220 : Cond.instanceMethod yX5_isFigure ∈ UL := ul_in2 (List.mem_of_getElem? (i := 220) rfl) rfl
theorem ul_2_221 : Cond.code yX5_isFigure cX5_isFigure 2 (some .boolean) ∈ UL := ul_in2 (List.mem_of_getElem? (i := 221) rfl) rfl
theorem ul_2_222 : Cond.methodLink RX5 55 yX5_valueAt ∈ UL := ul_in2 (List.mem_of_getElem? (i := 222) rfl) rfl
theorem ul_2_224 : Cond.instanceMethod yX5_valueAt ∈ UL := ul_in2 (List.mem_of_getElem? (i := 224) rfl) rfl
theorem ul_2_225 : Cond.code yX5_valueAt cX5_valueAt 4 (some .int) ∈ UL := ul_in2 (List.mem_of_getElem? (i := 225) rfl) rfl
theorem ul_2_226 : Cond.methodLink RX5 59 yX5_numbersFit ∈ UL := ul_in2 (List.mem_of_getElem? (i := 226) rfl) rfl
theorem ul_2_228 : Cond.instanceMethod yX5_numbersFit ∈ UL := ul_in2 (List.mem_of_getElem? (i := 228) rfl) rfl
theorem ul_2_229 : Cond.code yX5_numbersFit cX5_numbersFit 2 (some .boolean) ∈ UL := ul_in2 (List.mem_of_getElem? (i := 229) rfl) rfl
theorem ul_2_230 : Cond.methodLink RX5 66 yX5_isBarrable ∈ UL := ul_in2 (List.mem_of_getElem? (i := 230) rfl) rfl
theorem ul_2_231 : Cond.static yX5_isBarrable ∈ UL := ul_in2 (List.mem_of_getElem? (i := 231) rfl) rfl
theorem ul_2_232 : Cond.code yX5_isBarrable cX5_isBarrable 2 (some .boolean) ∈ UL := ul_in2 (List.mem_of_getElem? (i := 232) rfl) rfl
theorem ul_2_234 : Cond.methodLink RL 57 yX8_force ∈ UL := ul_in2 (List.mem_of_getElem? (i := 234) rfl) rfl
theorem ul_2_235 : Cond.instanceMethod yX8_force ∈ UL := ul_in2 (List.mem_of_getElem? (i := 235) rfl) rfl
theorem ul_2_236 : Cond.selects RX8 yX8_force yX8_force ∈ UL := ul_in2 (List.mem_of_getElem? (i := 236) rfl) rfl
theorem ul_2_237 : Cond.code yX8_force cX8_force 1 (some .int) ∈ UL := ul_in2 (List.mem_of_getElem? (i := 237) rfl) rfl
theorem ul_2_238 : Cond.methodLink RX8 128 yX5_putInForce ∈ UL := ul_in2 (List.mem_of_getElem? (i := 238) rfl) rfl
theorem ul_2_239 : Cond.instanceMethod yX5_putInForce ∈ UL := ul_in2 (List.mem_of_getElem? (i := 239) rfl) rfl
theorem ul_3_0 : Cond.selects RX5 yX5_putInForce yX5_putInForce ∈ UL := ul_in3 (List.mem_of_getElem? (i := 0) rfl) rfl
theorem ul_3_1 : Cond.code yX5_putInForce cX5_putInForce 4 (some .int) ∈ UL := ul_in3 (List.mem_of_getElem? (i := 1) rfl) rfl
theorem ul_3_2 : Cond.methodLink RX5 36 yX5_firstFault ∈ UL := ul_in3 (List.mem_of_getElem? (i := 2) rfl) rfl
theorem ul_3_3 : Cond.methodLink RX5 43 arraycopyName ∈ UL := ul_in3 (List.mem_of_getElem? (i := 3) rfl) rfl
theorem ul_3_4 : Cond.static arraycopyName ∈ UL := ul_in3 (List.mem_of_getElem? (i := 4) rfl) rfl
theorem ul_3_5 : Cond.native arraycopyName ∈ UL := ul_in3 (List.mem_of_getElem? (i := 5) rfl) rfl
theorem ul_3_6 : Cond.methodLink RL 61 yX8_may ∈ UL := ul_in3 (List.mem_of_getElem? (i := 6) rfl) rfl
theorem ul_3_7 : Cond.instanceMethod yX8_may ∈ UL := ul_in3 (List.mem_of_getElem? (i := 7) rfl) rfl
theorem ul_3_8 : Cond.selects RX8 yX8_may yX8_may ∈ UL := ul_in3 (List.mem_of_getElem? (i := 8) rfl) rfl
theorem ul_3_9 : Cond.code yX8_may cX8_may 4 (some .int) ∈ UL := ul_in3 (List.mem_of_getElem? (i := 9) rfl) rfl
theorem ul_3_10 : Cond.methodLink RX8 131 yX5_lets ∈ UL := ul_in3 (List.mem_of_getElem? (i := 10) rfl) rfl
theorem ul_3_11 : Cond.instanceMethod yX5_lets ∈ UL := ul_in3 (List.mem_of_getElem? (i := 11) rfl) rfl
theorem ul_3_12 : Cond.selects RX5 yX5_lets yX5_lets ∈ UL := ul_in3 (List.mem_of_getElem? (i := 12) rfl) rfl
theorem ul_3_13 : Cond.code yX5_lets cX5_lets 5 (some .boolean) ∈ UL := ul_in3 (List.mem_of_getElem? (i := 13) rfl) rfl
theorem ul_3_14 : Cond.methodLink RX5 74 yX5_letsByItem ∈ UL := ul_in3 (List.mem_of_getElem? (i := 14) rfl) rfl
theorem ul_3_16 : Cond.instanceMethod yX5_letsByItem ∈ UL := ul_in3 (List.mem_of_getElem? (i := 16) rfl) rfl
theorem ul_3_17 : Cond.code yX5_letsByItem cX5_letsByItem 7 (some .boolean) ∈ UL := ul_in3 (List.mem_of_getElem? (i := 17) rfl) rfl
theorem ul_3_18 : Cond.methodLink RL 65 yX8_barred ∈ UL := ul_in3 (List.mem_of_getElem? (i := 18) rfl) rfl
theorem ul_3_19 : Cond.instanceMethod yX8_barred ∈ UL := ul_in3 (List.mem_of_getElem? (i := 19) rfl) rfl
theorem ul_3_20 : Cond.selects RX8 yX8_barred yX8_barred ∈ UL := ul_in3 (List.mem_of_getElem? (i := 20) rfl) rfl
theorem ul_3_21 : Cond.code yX8_barred cX8_barred 1 (some .int) ∈ UL := ul_in3 (List.mem_of_getElem? (i := 21) rfl) rfl
theorem ul_3_22 : Cond.methodLink RX8 134 yX5_barring ∈ UL := ul_in3 (List.mem_of_getElem? (i := 22) rfl) rfl
theorem ul_3_23 : Cond.instanceMethod yX5_barring ∈ UL := ul_in3 (List.mem_of_getElem? (i := 23) rfl) rfl
theorem ul_3_24 : Cond.selects RX5 yX5_barring yX5_barring ∈ UL := ul_in3 (List.mem_of_getElem? (i := 24) rfl) rfl
theorem ul_3_25 : Cond.code yX5_barring cX5_barring 5 (some .long) ∈ UL := ul_in3 (List.mem_of_getElem? (i := 25) rfl) rfl
theorem ul_3_26 : Cond.methodLink RX5 86 yX5_barsByItem ∈ UL := ul_in3 (List.mem_of_getElem? (i := 26) rfl) rfl
theorem ul_3_28 : Cond.instanceMethod yX5_barsByItem ∈ UL := ul_in3 (List.mem_of_getElem? (i := 28) rfl) rfl
theorem ul_3_29 : Cond.code yX5_barsByItem cX5_barsByItem 5 (some .boolean) ∈ UL := ul_in3 (List.mem_of_getElem? (i := 29) rfl) rfl
theorem ul_3_31 : Cond.methodLink RX8 138 yJ13_bitCount_95d88 ∈ UL := ul_in3 (List.mem_of_getElem? (i := 31) rfl) rfl
theorem ul_3_32 : Cond.static yJ13_bitCount_95d88 ∈ UL := ul_in3 (List.mem_of_getElem? (i := 32) rfl) rfl
theorem ul_3_33 : Cond.code yJ13_bitCount_95d88 cJ13_bitCount_95d88 2 (some .int) ∈ UL := ul_in3 (List.mem_of_getElem? (i := 33) rfl) rfl
theorem ul_3_34 : Cond.constantLong RJ13 314 (Int64.ofInt (6148914691236517205)) ∈ UL := ul_in3 (List.mem_of_getElem? (i := 34) rfl) rfl
theorem ul_3_35 : Cond.constantLong RJ13 316 (Int64.ofInt (3689348814741910323)) ∈ UL := ul_in3 (List.mem_of_getElem? (i := 35) rfl) rfl
theorem ul_3_36 : Cond.constantLong RJ13 318 (Int64.ofInt (1085102592571150095)) ∈ UL := ul_in3 (List.mem_of_getElem? (i := 36) rfl) rfl
theorem ul_3_37 : Cond.methodLink RL 69 yX8_hear ∈ UL := ul_in3 (List.mem_of_getElem? (i := 37) rfl) rfl
theorem ul_3_38 : Cond.instanceMethod yX8_hear ∈ UL := ul_in3 (List.mem_of_getElem? (i := 38) rfl) rfl
theorem ul_3_39 : Cond.selects RX8 yX8_hear yX8_hear ∈ UL := ul_in3 (List.mem_of_getElem? (i := 39) rfl) rfl
theorem ul_3_40 : Cond.code yX8_hear cX8_hear 6 (some .int) ∈ UL := ul_in3 (List.mem_of_getElem? (i := 40) rfl) rfl
theorem ul_3_41 : Cond.methodLink RX8 147 yX7_listen ∈ UL := ul_in3 (List.mem_of_getElem? (i := 41) rfl) rfl
theorem ul_3_42 : Cond.instanceMethod yX7_listen ∈ UL := ul_in3 (List.mem_of_getElem? (i := 42) rfl) rfl
theorem ul_3_43 : Cond.selects RX7 yX7_listen yX7_listen ∈ UL := ul_in3 (List.mem_of_getElem? (i := 43) rfl) rfl
theorem ul_3_44 : Cond.code yX7_listen cX7_listen 5 none ∈ UL := ul_in3 (List.mem_of_getElem? (i := 44) rfl) rfl
theorem ul_3_45 : Cond.methodLink RX8 151 yX3_begin ∈ UL := ul_in3 (List.mem_of_getElem? (i := 45) rfl) rfl
theorem ul_3_46 : Cond.instanceMethod yX3_begin ∈ UL := ul_in3 (List.mem_of_getElem? (i := 46) rfl) rfl
theorem ul_3_47 : Cond.selects RX3 yX3_begin yX3_begin ∈ UL := ul_in3 (List.mem_of_getElem? (i := 47) rfl) rfl
theorem ul_3_48 : Cond.code yX3_begin cX3_begin 3 none ∈ UL := ul_in3 (List.mem_of_getElem? (i := 48) rfl) rfl
theorem ul_3_49 : Cond.methodLink RX8 155 yX3_findReadings ∈ UL := ul_in3 (List.mem_of_getElem? (i := 49) rfl) rfl
theorem ul_3_50 : Cond.instanceMethod yX3_findReadings ∈ UL := ul_in3 (List.mem_of_getElem? (i := 50) rfl) rfl
theorem ul_3_51 : Cond.selects RX3 yX3_findReadings yX3_findReadings ∈ UL := ul_in3 (List.mem_of_getElem? (i := 51) rfl) rfl
theorem ul_3_52 : Cond.code yX3_findReadings cX3_findReadings 3 none ∈ UL := ul_in3 (List.mem_of_getElem? (i := 52) rfl) rfl
theorem ul_3_53 : Cond.methodLink RX3 65 yX7_priceNothing ∈ UL := ul_in3 (List.mem_of_getElem? (i := 53) rfl) rfl
theorem ul_3_54 : Cond.instanceMethod yX7_priceNothing ∈ UL := ul_in3 (List.mem_of_getElem? (i := 54) rfl) rfl
theorem ul_3_55 : Cond.selects RX7 yX7_priceNothing yX7_priceNothing ∈ UL := ul_in3 (List.mem_of_getElem? (i := 55) rfl) rfl
theorem ul_3_56 : Cond.code yX7_priceNothing cX7_priceNothing 3 none ∈ UL := ul_in3 (List.mem_of_getElem? (i := 56) rfl) rfl
theorem ul_3_57 : Cond.methodLink RX3 75 yX7_priceWithWord ∈ UL := ul_in3 (List.mem_of_getElem? (i := 57) rfl) rfl
theorem ul_3_58 : Cond.instanceMethod yX7_priceWithWord ∈ UL := ul_in3 (List.mem_of_getElem? (i := 58) rfl) rfl
theorem ul_3_59 : Cond.selects RX7 yX7_priceWithWord yX7_priceWithWord ∈ UL := ul_in3 (List.mem_of_getElem? (i := 59) rfl) rfl
theorem ul_3_60 : Cond.code yX7_priceWithWord cX7_priceWithWord 5 none ∈ UL := ul_in3 (List.mem_of_getElem? (i := 60) rfl) rfl
theorem ul_3_61 : Cond.methodLink RX7 43 arraycopyName ∈ UL := ul_in3 (List.mem_of_getElem? (i := 61) rfl) rfl
theorem ul_3_62 : Cond.methodLink RX7 49 yX7_priceWithSound ∈ UL := ul_in3 (List.mem_of_getElem? (i := 62) rfl) rfl
theorem ul_3_64 : Cond.instanceMethod yX7_priceWithSound ∈ UL := ul_in3 (List.mem_of_getElem? (i := 64) rfl) rfl
theorem ul_3_65 : Cond.code yX7_priceWithSound cX7_priceWithSound 7 none ∈ UL := ul_in3 (List.mem_of_getElem? (i := 65) rfl) rfl
theorem ul_3_66 : Cond.methodLink RX7 52 yJ9_min_7cf53 ∈ UL := ul_in3 (List.mem_of_getElem? (i := 66) rfl) rfl
theorem ul_3_67 : Cond.static yJ9_min_7cf53 ∈ UL := ul_in3 (List.mem_of_getElem? (i := 67) rfl) rfl
theorem ul_3_68 : Cond.code yJ9_min_7cf53 cJ9_min_7cf53 2 (some .int) ∈ UL := ul_in3 (List.mem_of_getElem? (i := 68) rfl) rfl
theorem ul_3_69 : Cond.methodLink RX3 79 yX3_offerWithVerb ∈ UL := ul_in3 (List.mem_of_getElem? (i := 69) rfl) rfl
theorem ul_3_71 : Cond.instanceMethod yX3_offerWithVerb ∈ UL := ul_in3 (List.mem_of_getElem? (i := 71) rfl) rfl
theorem ul_3_72 : Cond.code yX3_offerWithVerb cX3_offerWithVerb 6 none ∈ UL := ul_in3 (List.mem_of_getElem? (i := 72) rfl) rfl
theorem ul_3_73 : Cond.methodLink RX3 86 yX3_offer ∈ UL := ul_in3 (List.mem_of_getElem? (i := 73) rfl) rfl
theorem ul_3_75 : Cond.instanceMethod yX3_offer ∈ UL := ul_in3 (List.mem_of_getElem? (i := 75) rfl) rfl
theorem ul_3_76 : Cond.code yX3_offer cX3_offer 7 none ∈ UL := ul_in3 (List.mem_of_getElem? (i := 76) rfl) rfl
theorem ul_3_77 : Cond.methodLink RX3 90 yX3_offerWithSort ∈ UL := ul_in3 (List.mem_of_getElem? (i := 77) rfl) rfl
theorem ul_3_79 : Cond.instanceMethod yX3_offerWithSort ∈ UL := ul_in3 (List.mem_of_getElem? (i := 79) rfl) rfl
theorem ul_3_80 : Cond.code yX3_offerWithSort cX3_offerWithSort 6 none ∈ UL := ul_in3 (List.mem_of_getElem? (i := 80) rfl) rfl
theorem ul_3_81 : Cond.methodLink RX8 162 yX3_findMeant ∈ UL := ul_in3 (List.mem_of_getElem? (i := 81) rfl) rfl
theorem ul_3_82 : Cond.instanceMethod yX3_findMeant ∈ UL := ul_in3 (List.mem_of_getElem? (i := 82) rfl) rfl
theorem ul_3_83 : Cond.selects RX3 yX3_findMeant yX3_findMeant ∈ UL := ul_in3 (List.mem_of_getElem? (i := 83) rfl) rfl
theorem ul_3_84 : Cond.code yX3_findMeant cX3_findMeant 4 none ∈ UL := ul_in3 (List.mem_of_getElem? (i := 84) rfl) rfl
theorem ul_3_85 : Cond.methodLink RX3 94 yX3_thingsNamed ∈ UL := ul_in3 (List.mem_of_getElem? (i := 85) rfl) rfl
theorem ul_3_87 : Cond.instanceMethod yX3_thingsNamed ∈ UL := ul_in3 (List.mem_of_getElem? (i := 87) rfl) rfl
theorem ul_3_88 : Cond.code yX3_thingsNamed cX3_thingsNamed 3 (some .int) ∈ UL := ul_in3 (List.mem_of_getElem? (i := 88) rfl) rfl
theorem ul_3_89 : Cond.methodLink RX3 98 yX7_numberOf ∈ UL := ul_in3 (List.mem_of_getElem? (i := 89) rfl) rfl
theorem ul_3_90 : Cond.instanceMethod yX7_numberOf ∈ UL := ul_in3 (List.mem_of_getElem? (i := 90) rfl) rfl
theorem ul_3_91 : Cond.selects RX7 yX7_numberOf yX7_numberOf ∈ UL := ul_in3 (List.mem_of_getElem? (i := 91) rfl) rfl
theorem ul_3_92 : Cond.code yX7_numberOf cX7_numberOf 2 (some .int) ∈ UL := ul_in3 (List.mem_of_getElem? (i := 92) rfl) rfl
theorem ul_3_93 : Cond.methodLink RX3 110 yX4_thingsThere ∈ UL := ul_in3 (List.mem_of_getElem? (i := 93) rfl) rfl
theorem ul_3_94 : Cond.instanceMethod yX4_thingsThere ∈ UL := ul_in3 (List.mem_of_getElem? (i := 94) rfl) rfl
theorem ul_3_95 : Cond.selects RX4 yX4_thingsThere yX4_thingsThere ∈ UL := ul_in3 (List.mem_of_getElem? (i := 95) rfl) rfl
theorem ul_3_96 : Cond.code yX4_thingsThere cX4_thingsThere 5 (some .int) ∈ UL := ul_in3 (List.mem_of_getElem? (i := 96) rfl) rfl
theorem ul_3_97 : Cond.methodLink RX3 101 yX4_thingsThatCanBe ∈ UL := ul_in3 (List.mem_of_getElem? (i := 97) rfl) rfl
theorem ul_3_98 : Cond.instanceMethod yX4_thingsThatCanBe ∈ UL := ul_in3 (List.mem_of_getElem? (i := 98) rfl) rfl
theorem ul_3_99 : Cond.selects RX4 yX4_thingsThatCanBe yX4_thingsThatCanBe ∈ UL := ul_in3 (List.mem_of_getElem? (i := 99) rfl) rfl
theorem ul_3_100 : Cond.code yX4_thingsThatCanBe cX4_thingsThatCanBe 5 (some .int) ∈ UL := ul_in3 (List.mem_of_getElem? (i := 100) rfl) rfl
theorem ul_3_102 : Cond.static yX8_isIn ∈ UL := ul_in3 (List.mem_of_getElem? (i := 102) rfl) rfl
theorem ul_3_103 : Cond.code yX8_isIn cX8_isIn 2 (some .boolean) ∈ UL := ul_in3 (List.mem_of_getElem? (i := 103) rfl) rfl
theorem ul_3_104 : Cond.methodLink RX4 65 yX4_canBe ∈ UL := ul_in3 (List.mem_of_getElem? (i := 104) rfl) rfl
theorem ul_3_105 : Cond.instanceMethod yX4_canBe ∈ UL := ul_in3 (List.mem_of_getElem? (i := 105) rfl) rfl
theorem ul_3_106 : Cond.selects RX4 yX4_canBe yX4_canBe ∈ UL := ul_in3 (List.mem_of_getElem? (i := 106) rfl) rfl
theorem ul_3_107 : Cond.code yX4_canBe cX4_canBe 3 (some .boolean) ∈ UL := ul_in3 (List.mem_of_getElem? (i := 107) rfl) rfl
theorem ul_3_108 : Cond.methodLink RX4 43 yX4_isThing ∈ UL := ul_in3 (List.mem_of_getElem? (i := 108) rfl) rfl
theorem ul_3_111 : Cond.methodLink RX8 165 yX3_findOpen ∈ UL := ul_in3 (List.mem_of_getElem? (i := 111) rfl) rfl
theorem ul_3_112 : Cond.instanceMethod yX3_findOpen ∈ UL := ul_in3 (List.mem_of_getElem? (i := 112) rfl) rfl
theorem ul_3_113 : Cond.selects RX3 yX3_findOpen yX3_findOpen ∈ UL := ul_in3 (List.mem_of_getElem? (i := 113) rfl) rfl
theorem ul_3_114 : Cond.code yX3_findOpen cX3_findOpen 5 none ∈ UL := ul_in3 (List.mem_of_getElem? (i := 114) rfl) rfl
theorem ul_3_115 : Cond.methodLink RL 74 yX8_reading ∈ UL := ul_in3 (List.mem_of_getElem? (i := 115) rfl) rfl
theorem ul_3_116 : Cond.instanceMethod yX8_reading ∈ UL := ul_in3 (List.mem_of_getElem? (i := 116) rfl) rfl
theorem ul_3_117 : Cond.selects RX8 yX8_reading yX8_reading ∈ UL := ul_in3 (List.mem_of_getElem? (i := 117) rfl) rfl
theorem ul_3_118 : Cond.code yX8_reading cX8_reading 3 (some .int) ∈ UL := ul_in3 (List.mem_of_getElem? (i := 118) rfl) rfl
theorem ul_3_119 : Cond.methodLink RX8 171 yX3_tell ∈ UL := ul_in3 (List.mem_of_getElem? (i := 119) rfl) rfl
theorem ul_3_120 : Cond.instanceMethod yX3_tell ∈ UL := ul_in3 (List.mem_of_getElem? (i := 120) rfl) rfl
theorem ul_3_121 : Cond.selects RX3 yX3_tell yX3_tell ∈ UL := ul_in3 (List.mem_of_getElem? (i := 121) rfl) rfl
theorem ul_3_122 : Cond.code yX3_tell cX3_tell 3 (some .int) ∈ UL := ul_in3 (List.mem_of_getElem? (i := 122) rfl) rfl
theorem ul_3_123 : Cond.methodLink RL 78 yX8_open ∈ UL := ul_in3 (List.mem_of_getElem? (i := 123) rfl) rfl
theorem ul_3_124 : Cond.instanceMethod yX8_open ∈ UL := ul_in3 (List.mem_of_getElem? (i := 124) rfl) rfl
theorem ul_3_125 : Cond.selects RX8 yX8_open yX8_open ∈ UL := ul_in3 (List.mem_of_getElem? (i := 125) rfl) rfl
theorem ul_3_126 : Cond.code yX8_open cX8_open 1 (some .int) ∈ UL := ul_in3 (List.mem_of_getElem? (i := 126) rfl) rfl
theorem ul_3_127 : Cond.methodLink RX8 178 yX3_unlike ∈ UL := ul_in3 (List.mem_of_getElem? (i := 127) rfl) rfl
theorem ul_3_128 : Cond.instanceMethod yX3_unlike ∈ UL := ul_in3 (List.mem_of_getElem? (i := 128) rfl) rfl
theorem ul_3_129 : Cond.selects RX3 yX3_unlike yX3_unlike ∈ UL := ul_in3 (List.mem_of_getElem? (i := 129) rfl) rfl
theorem ul_3_130 : Cond.code yX3_unlike cX3_unlike 3 (some .int) ∈ UL := ul_in3 (List.mem_of_getElem? (i := 130) rfl) rfl
theorem ul_3_131 : Cond.methodLink RX3 113 yX3_isFirstToDoSo ∈ UL := ul_in3 (List.mem_of_getElem? (i := 131) rfl) rfl
theorem ul_3_133 : Cond.instanceMethod yX3_isFirstToDoSo ∈ UL := ul_in3 (List.mem_of_getElem? (i := 133) rfl) rfl
theorem ul_3_134 : Cond.code yX3_isFirstToDoSo cX3_isFirstToDoSo 4 (some .boolean) ∈ UL := ul_in3 (List.mem_of_getElem? (i := 134) rfl) rfl
theorem ul_3_135 : Cond.methodLink RX3 117 yX3_statesBy ∈ UL := ul_in3 (List.mem_of_getElem? (i := 135) rfl) rfl
theorem ul_3_137 : Cond.instanceMethod yX3_statesBy ∈ UL := ul_in3 (List.mem_of_getElem? (i := 137) rfl) rfl
theorem ul_3_138 : Cond.code yX3_statesBy cX3_statesBy 2 (some .int) ∈ UL := ul_in3 (List.mem_of_getElem? (i := 138) rfl) rfl
theorem ul_3_140 : Cond.static yX8_withAll ∈ UL := ul_in3 (List.mem_of_getElem? (i := 140) rfl) rfl
theorem ul_3_141 : Cond.code yX8_withAll cX8_withAll 5 (some .int) ∈ UL := ul_in3 (List.mem_of_getElem? (i := 141) rfl) rfl
theorem ul_3_142 : Cond.methodLink RX8 289 yX8_isIn ∈ UL := ul_in3 (List.mem_of_getElem? (i := 142) rfl) rfl
theorem ul_3_143 : Cond.methodLink RX8 330 yX8_with ∈ UL := ul_in3 (List.mem_of_getElem? (i := 143) rfl) rfl
theorem ul_3_144 : Cond.static yX8_with ∈ UL := ul_in3 (List.mem_of_getElem? (i := 144) rfl) rfl
theorem ul_3_145 : Cond.code yX8_with cX8_with 3 (some .int) ∈ UL := ul_in3 (List.mem_of_getElem? (i := 145) rfl) rfl
theorem ul_3_146 : Cond.methodLink RL 82 yX8_ask ∈ UL := ul_in3 (List.mem_of_getElem? (i := 146) rfl) rfl
theorem ul_3_147 : Cond.instanceMethod yX8_ask ∈ UL := ul_in3 (List.mem_of_getElem? (i := 147) rfl) rfl
theorem ul_3_148 : Cond.selects RX8 yX8_ask yX8_ask ∈ UL := ul_in3 (List.mem_of_getElem? (i := 148) rfl) rfl
theorem ul_3_149 : Cond.code yX8_ask cX8_ask 1 (some .int) ∈ UL := ul_in3 (List.mem_of_getElem? (i := 149) rfl) rfl
theorem ul_3_150 : Cond.methodLink RX8 181 yX3_partToAsk ∈ UL := ul_in3 (List.mem_of_getElem? (i := 150) rfl) rfl
theorem ul_3_151 : Cond.instanceMethod yX3_partToAsk ∈ UL := ul_in3 (List.mem_of_getElem? (i := 151) rfl) rfl
theorem ul_3_152 : Cond.selects RX3 yX3_partToAsk yX3_partToAsk ∈ UL := ul_in3 (List.mem_of_getElem? (i := 152) rfl) rfl
theorem ul_3_153 : Cond.code yX3_partToAsk cX3_partToAsk 3 (some .int) ∈ UL := ul_in3 (List.mem_of_getElem? (i := 153) rfl) rfl
theorem ul_3_154 : Cond.methodLink RX3 131 yX3_greatestWithOneAnswer ∈ UL := ul_in3 (List.mem_of_getElem? (i := 154) rfl) rfl
theorem ul_3_156 : Cond.instanceMethod yX3_greatestWithOneAnswer ∈ UL := ul_in3 (List.mem_of_getElem? (i := 156) rfl) rfl
theorem ul_3_157 : Cond.code yX3_greatestWithOneAnswer cX3_greatestWithOneAnswer 4 (some .int) ∈ UL := ul_in3 (List.mem_of_getElem? (i := 157) rfl) rfl
theorem ul_3_158 : Cond.methodLink RX3 134 yX3_wordAt ∈ UL := ul_in3 (List.mem_of_getElem? (i := 158) rfl) rfl
theorem ul_3_160 : Cond.instanceMethod yX3_wordAt ∈ UL := ul_in3 (List.mem_of_getElem? (i := 160) rfl) rfl
theorem ul_3_161 : Cond.code yX3_wordAt cX3_wordAt 3 (some .int) ∈ UL := ul_in3 (List.mem_of_getElem? (i := 161) rfl) rfl
theorem ul_3_162 : Cond.methodLink RX3 137 yX3_openWith ∈ UL := ul_in3 (List.mem_of_getElem? (i := 162) rfl) rfl
theorem ul_3_164 : Cond.instanceMethod yX3_openWith ∈ UL := ul_in3 (List.mem_of_getElem? (i := 164) rfl) rfl
theorem ul_3_165 : Cond.code yX3_openWith cX3_openWith 5 (some .int) ∈ UL := ul_in3 (List.mem_of_getElem? (i := 165) rfl) rfl
theorem ul_3_166 : Cond.methodLink RX3 140 yJ9_max_7cf53 ∈ UL := ul_in3 (List.mem_of_getElem? (i := 166) rfl) rfl
theorem ul_3_167 : Cond.static yJ9_max_7cf53 ∈ UL := ul_in3 (List.mem_of_getElem? (i := 167) rfl) rfl
theorem ul_3_168 : Cond.code yJ9_max_7cf53 cJ9_max_7cf53 2 (some .int) ∈ UL := ul_in3 (List.mem_of_getElem? (i := 168) rfl) rfl
theorem ul_3_169 : Cond.methodLink RL 86 yX8_answer ∈ UL := ul_in3 (List.mem_of_getElem? (i := 169) rfl) rfl
theorem ul_3_170 : Cond.instanceMethod yX8_answer ∈ UL := ul_in3 (List.mem_of_getElem? (i := 170) rfl) rfl
theorem ul_3_171 : Cond.selects RX8 yX8_answer yX8_answer ∈ UL := ul_in3 (List.mem_of_getElem? (i := 171) rfl) rfl
theorem ul_3_172 : Cond.code yX8_answer cX8_answer 4 (some .int) ∈ UL := ul_in3 (List.mem_of_getElem? (i := 172) rfl) rfl
theorem ul_3_173 : Cond.methodLink RX8 185 yX3_keepOnly ∈ UL := ul_in3 (List.mem_of_getElem? (i := 173) rfl) rfl
theorem ul_3_174 : Cond.instanceMethod yX3_keepOnly ∈ UL := ul_in3 (List.mem_of_getElem? (i := 174) rfl) rfl
theorem ul_3_175 : Cond.selects RX3 yX3_keepOnly yX3_keepOnly ∈ UL := ul_in3 (List.mem_of_getElem? (i := 175) rfl) rfl
theorem ul_3_176 : Cond.code yX3_keepOnly cX3_keepOnly 5 (some .int) ∈ UL := ul_in3 (List.mem_of_getElem? (i := 176) rfl) rfl
theorem ul_3_177 : Cond.methodLink RL 90 yX8_done ∈ UL := ul_in3 (List.mem_of_getElem? (i := 177) rfl) rfl
theorem ul_3_178 : Cond.instanceMethod yX8_done ∈ UL := ul_in3 (List.mem_of_getElem? (i := 178) rfl) rfl
theorem ul_3_179 : Cond.selects RX8 yX8_done yX8_done ∈ UL := ul_in3 (List.mem_of_getElem? (i := 179) rfl) rfl
theorem ul_3_180 : Cond.code yX8_done cX8_done 5 (some .int) ∈ UL := ul_in3 (List.mem_of_getElem? (i := 180) rfl) rfl
theorem ul_3_181 : Cond.methodLink RX8 188 yX3_taken ∈ UL := ul_in3 (List.mem_of_getElem? (i := 181) rfl) rfl
theorem ul_3_182 : Cond.instanceMethod yX3_taken ∈ UL := ul_in3 (List.mem_of_getElem? (i := 182) rfl) rfl
theorem ul_3_183 : Cond.selects RX3 yX3_taken yX3_taken ∈ UL := ul_in3 (List.mem_of_getElem? (i := 183) rfl) rfl
theorem ul_3_184 : Cond.code yX3_taken cX3_taken 2 (some .int) ∈ UL := ul_in3 (List.mem_of_getElem? (i := 184) rfl) rfl
theorem ul_3_185 : Cond.methodLink RX3 127 yX3_unlike ∈ UL := ul_in3 (List.mem_of_getElem? (i := 185) rfl) rfl
theorem ul_3_186 : Cond.methodLink RX8 197 yX8_mayTurnAll ∈ UL := ul_in3 (List.mem_of_getElem? (i := 186) rfl) rfl
theorem ul_3_188 : Cond.instanceMethod yX8_mayTurnAll ∈ UL := ul_in3 (List.mem_of_getElem? (i := 188) rfl) rfl
theorem ul_3_189 : Cond.code yX8_mayTurnAll cX8_mayTurnAll 4 (some .boolean) ∈ UL := ul_in3 (List.mem_of_getElem? (i := 189) rfl) rfl
theorem ul_3_190 : Cond.methodLink RX8 205 yX7_numberOf ∈ UL := ul_in3 (List.mem_of_getElem? (i := 190) rfl) rfl
theorem ul_3_191 : Cond.methodLink RX8 209 yX8_withAll ∈ UL := ul_in3 (List.mem_of_getElem? (i := 191) rfl) rfl
theorem ul_3_192 : Cond.methodLink RX8 212 yX5_barsNewly ∈ UL := ul_in3 (List.mem_of_getElem? (i := 192) rfl) rfl
theorem ul_3_193 : Cond.instanceMethod yX5_barsNewly ∈ UL := ul_in3 (List.mem_of_getElem? (i := 193) rfl) rfl
theorem ul_3_194 : Cond.selects RX5 yX5_barsNewly yX5_barsNewly ∈ UL := ul_in3 (List.mem_of_getElem? (i := 194) rfl) rfl
theorem ul_3_195 : Cond.code yX5_barsNewly cX5_barsNewly 3 (some .boolean) ∈ UL := ul_in3 (List.mem_of_getElem? (i := 195) rfl) rfl
theorem ul_3_196 : Cond.methodLink RX5 95 yX5_barring ∈ UL := ul_in3 (List.mem_of_getElem? (i := 196) rfl) rfl
theorem ul_3_197 : Cond.constantLong RX5 99 (Int64.ofInt (-1)) ∈ UL := ul_in3 (List.mem_of_getElem? (i := 197) rfl) rfl
theorem ul_3_198 : Cond.methodLink RX8 215 yX8_carryOut ∈ UL := ul_in3 (List.mem_of_getElem? (i := 198) rfl) rfl
theorem ul_3_200 : Cond.instanceMethod yX8_carryOut ∈ UL := ul_in3 (List.mem_of_getElem? (i := 200) rfl) rfl
theorem ul_3_201 : Cond.code yX8_carryOut cX8_carryOut 6 (some .int) ∈ UL := ul_in3 (List.mem_of_getElem? (i := 201) rfl) rfl
theorem ul_3_202 : Cond.methodLink RX8 292 yX4_thingsUnlike ∈ UL := ul_in3 (List.mem_of_getElem? (i := 202) rfl) rfl
theorem ul_3_203 : Cond.instanceMethod yX4_thingsUnlike ∈ UL := ul_in3 (List.mem_of_getElem? (i := 203) rfl) rfl
theorem ul_3_204 : Cond.selects RX4 yX4_thingsUnlike yX4_thingsUnlike ∈ UL := ul_in3 (List.mem_of_getElem? (i := 204) rfl) rfl
theorem ul_3_205 : Cond.code yX4_thingsUnlike cX4_thingsUnlike 5 (some .int) ∈ UL := ul_in3 (List.mem_of_getElem? (i := 205) rfl) rfl
theorem ul_3_207 : Cond.methodLink RX8 295 yX0_add ∈ UL := ul_in3 (List.mem_of_getElem? (i := 207) rfl) rfl
theorem ul_3_208 : Cond.instanceMethod yX0_add ∈ UL := ul_in3 (List.mem_of_getElem? (i := 208) rfl) rfl
theorem ul_3_209 : Cond.selects RX0 yX0_add yX0_add ∈ UL := ul_in3 (List.mem_of_getElem? (i := 209) rfl) rfl
theorem ul_3_210 : Cond.code yX0_add cX0_add 4 (some .int) ∈ UL := ul_in3 (List.mem_of_getElem? (i := 210) rfl) rfl
theorem ul_3_211 : Cond.methodLink RX8 297 yX6_clearRow ∈ UL := ul_in3 (List.mem_of_getElem? (i := 211) rfl) rfl
theorem ul_3_212 : Cond.instanceMethod yX6_clearRow ∈ UL := ul_in3 (List.mem_of_getElem? (i := 212) rfl) rfl
theorem ul_3_213 : Cond.selects RX6 yX6_clearRow yX6_clearRow ∈ UL := ul_in3 (List.mem_of_getElem? (i := 213) rfl) rfl
theorem ul_3_214 : Cond.code yX6_clearRow cX6_clearRow 1 none ∈ UL := ul_in3 (List.mem_of_getElem? (i := 214) rfl) rfl
theorem ul_3_215 : Cond.methodLink RX8 303 yX1_add ∈ UL := ul_in3 (List.mem_of_getElem? (i := 215) rfl) rfl
theorem ul_3_216 : Cond.instanceMethod yX1_add ∈ UL := ul_in3 (List.mem_of_getElem? (i := 216) rfl) rfl
theorem ul_3_217 : Cond.selects RX1 yX1_add yX1_add ∈ UL := ul_in3 (List.mem_of_getElem? (i := 217) rfl) rfl
theorem ul_3_218 : Cond.code yX1_add cX1_add 5 none ∈ UL := ul_in3 (List.mem_of_getElem? (i := 218) rfl) rfl
theorem ul_3_219 : Cond.methodLink RX1 34 yX1_dropOldest ∈ UL := ul_in3 (List.mem_of_getElem? (i := 219) rfl) rfl
theorem ul_3_221 : Cond.instanceMethod yX1_dropOldest ∈ UL := ul_in3 (List.mem_of_getElem? (i := 221) rfl) rfl
theorem ul_3_222 : Cond.code yX1_dropOldest cX1_dropOldest 2 none ∈ UL := ul_in3 (List.mem_of_getElem? (i := 222) rfl) rfl
theorem ul_3_223 : Cond.methodLink RX1 37 yX1_moveEntry ∈ UL := ul_in3 (List.mem_of_getElem? (i := 223) rfl) rfl
theorem ul_3_225 : Cond.instanceMethod yX1_moveEntry ∈ UL := ul_in3 (List.mem_of_getElem? (i := 225) rfl) rfl
theorem ul_3_226 : Cond.code yX1_moveEntry cX1_moveEntry 3 none ∈ UL := ul_in3 (List.mem_of_getElem? (i := 226) rfl) rfl
theorem ul_3_227 : Cond.methodLink RX8 306 yX4_change ∈ UL := ul_in3 (List.mem_of_getElem? (i := 227) rfl) rfl
theorem ul_3_228 : Cond.instanceMethod yX4_change ∈ UL := ul_in3 (List.mem_of_getElem? (i := 228) rfl) rfl
theorem ul_3_229 : Cond.selects RX4 yX4_change yX4_change ∈ UL := ul_in3 (List.mem_of_getElem? (i := 229) rfl) rfl
theorem ul_3_230 : Cond.code yX4_change cX4_change 4 none ∈ UL := ul_in3 (List.mem_of_getElem? (i := 230) rfl) rfl
theorem ul_3_232 : Cond.methodLink RX8 310 yX6_rouse ∈ UL := ul_in3 (List.mem_of_getElem? (i := 232) rfl) rfl
theorem ul_3_233 : Cond.instanceMethod yX6_rouse ∈ UL := ul_in3 (List.mem_of_getElem? (i := 233) rfl) rfl
theorem ul_3_234 : Cond.selects RX6 yX6_rouse yX6_rouse ∈ UL := ul_in3 (List.mem_of_getElem? (i := 234) rfl) rfl
theorem ul_3_235 : Cond.code yX6_rouse cX6_rouse 4 none ∈ UL := ul_in3 (List.mem_of_getElem? (i := 235) rfl) rfl
theorem ul_3_236 : Cond.methodLink RX6 42 yX6_putInRow ∈ UL := ul_in3 (List.mem_of_getElem? (i := 236) rfl) rfl
theorem ul_3_238 : Cond.instanceMethod yX6_putInRow ∈ UL := ul_in3 (List.mem_of_getElem? (i := 238) rfl) rfl
theorem ul_3_239 : Cond.code yX6_putInRow cX6_putInRow 2 none ∈ UL := ul_in3 (List.mem_of_getElem? (i := 239) rfl) rfl
theorem ul_4_0 : Cond.methodLink RX8 313 yJ6_bitCount_0f7a4 ∈ UL := ul_in4 (List.mem_of_getElem? (i := 0) rfl) rfl
theorem ul_4_1 : Cond.static yJ6_bitCount_0f7a4 ∈ UL := ul_in4 (List.mem_of_getElem? (i := 1) rfl) rfl
theorem ul_4_2 : Cond.code yJ6_bitCount_0f7a4 cJ6_bitCount_0f7a4 1 (some .int) ∈ UL := ul_in4 (List.mem_of_getElem? (i := 2) rfl) rfl
theorem ul_4_3 : Cond.constant RJ6 265 (Int32.ofInt (1431655765)) ∈ UL := ul_in4 (List.mem_of_getElem? (i := 3) rfl) rfl
theorem ul_4_4 : Cond.constant RJ6 266 (Int32.ofInt (858993459)) ∈ UL := ul_in4 (List.mem_of_getElem? (i := 4) rfl) rfl
theorem ul_4_5 : Cond.constant RJ6 267 (Int32.ofInt (252645135)) ∈ UL := ul_in4 (List.mem_of_getElem? (i := 5) rfl) rfl
theorem ul_4_6 : Cond.methodLink RX8 317 yX6_runRow ∈ UL := ul_in4 (List.mem_of_getElem? (i := 6) rfl) rfl
theorem ul_4_7 : Cond.instanceMethod yX6_runRow ∈ UL := ul_in4 (List.mem_of_getElem? (i := 7) rfl) rfl
theorem ul_4_8 : Cond.selects RX6 yX6_runRow yX6_runRow ∈ UL := ul_in4 (List.mem_of_getElem? (i := 8) rfl) rfl
theorem ul_4_9 : Cond.code yX6_runRow cX6_runRow 6 none ∈ UL := ul_in4 (List.mem_of_getElem? (i := 9) rfl) rfl
theorem ul_4_11 : Cond.methodLink RX6 65 yX5_barsNewly ∈ UL := ul_in4 (List.mem_of_getElem? (i := 11) rfl) rfl
theorem ul_4_12 : Cond.methodLink RX6 74 yX4_change ∈ UL := ul_in4 (List.mem_of_getElem? (i := 12) rfl) rfl
theorem ul_4_13 : Cond.methodLink RX6 49 yX6_rouse ∈ UL := ul_in4 (List.mem_of_getElem? (i := 13) rfl) rfl
theorem ul_4_14 : Cond.methodLink RX8 218 yX3_end ∈ UL := ul_in4 (List.mem_of_getElem? (i := 14) rfl) rfl
theorem ul_4_15 : Cond.instanceMethod yX3_end ∈ UL := ul_in4 (List.mem_of_getElem? (i := 15) rfl) rfl
theorem ul_4_16 : Cond.selects RX3 yX3_end yX3_end ∈ UL := ul_in4 (List.mem_of_getElem? (i := 16) rfl) rfl
theorem ul_4_17 : Cond.code yX3_end cX3_end 1 none ∈ UL := ul_in4 (List.mem_of_getElem? (i := 17) rfl) rfl
theorem ul_4_18 : Cond.methodLink RL 94 yX8_undo ∈ UL := ul_in4 (List.mem_of_getElem? (i := 18) rfl) rfl
theorem ul_4_19 : Cond.instanceMethod yX8_undo ∈ UL := ul_in4 (List.mem_of_getElem? (i := 19) rfl) rfl
theorem ul_4_20 : Cond.selects RX8 yX8_undo yX8_undo ∈ UL := ul_in4 (List.mem_of_getElem? (i := 20) rfl) rfl
theorem ul_4_21 : Cond.code yX8_undo cX8_undo 2 (some .int) ∈ UL := ul_in4 (List.mem_of_getElem? (i := 21) rfl) rfl
theorem ul_4_22 : Cond.methodLink RX8 221 yX0_lastNotBack ∈ UL := ul_in4 (List.mem_of_getElem? (i := 22) rfl) rfl
theorem ul_4_23 : Cond.instanceMethod yX0_lastNotBack ∈ UL := ul_in4 (List.mem_of_getElem? (i := 23) rfl) rfl
theorem ul_4_24 : Cond.selects RX0 yX0_lastNotBack yX0_lastNotBack ∈ UL := ul_in4 (List.mem_of_getElem? (i := 24) rfl) rfl
theorem ul_4_25 : Cond.code yX0_lastNotBack cX0_lastNotBack 2 (some .int) ∈ UL := ul_in4 (List.mem_of_getElem? (i := 25) rfl) rfl
theorem ul_4_26 : Cond.methodLink RX8 224 yX8_takeBack ∈ UL := ul_in4 (List.mem_of_getElem? (i := 26) rfl) rfl
theorem ul_4_28 : Cond.instanceMethod yX8_takeBack ∈ UL := ul_in4 (List.mem_of_getElem? (i := 28) rfl) rfl
theorem ul_4_29 : Cond.code yX8_takeBack cX8_takeBack 4 (some .int) ∈ UL := ul_in4 (List.mem_of_getElem? (i := 29) rfl) rfl
theorem ul_4_30 : Cond.methodLink RL 98 yX8_when ∈ UL := ul_in4 (List.mem_of_getElem? (i := 30) rfl) rfl
theorem ul_4_31 : Cond.instanceMethod yX8_when ∈ UL := ul_in4 (List.mem_of_getElem? (i := 31) rfl) rfl
theorem ul_4_32 : Cond.selects RX8 yX8_when yX8_when ∈ UL := ul_in4 (List.mem_of_getElem? (i := 32) rfl) rfl
theorem ul_4_33 : Cond.code yX8_when cX8_when 5 (some .int) ∈ UL := ul_in4 (List.mem_of_getElem? (i := 33) rfl) rfl
theorem ul_4_34 : Cond.methodLink RX8 227 yX4_canBe ∈ UL := ul_in4 (List.mem_of_getElem? (i := 34) rfl) rfl
theorem ul_4_35 : Cond.methodLink RX8 230 yX6_add ∈ UL := ul_in4 (List.mem_of_getElem? (i := 35) rfl) rfl
theorem ul_4_36 : Cond.instanceMethod yX6_add ∈ UL := ul_in4 (List.mem_of_getElem? (i := 36) rfl) rfl
theorem ul_4_37 : Cond.selects RX6 yX6_add yX6_add ∈ UL := ul_in4 (List.mem_of_getElem? (i := 37) rfl) rfl
theorem ul_4_38 : Cond.code yX6_add cX6_add 5 (some .int) ∈ UL := ul_in4 (List.mem_of_getElem? (i := 38) rfl) rfl
theorem ul_4_39 : Cond.methodLink RL 102 yX8_at ∈ UL := ul_in4 (List.mem_of_getElem? (i := 39) rfl) rfl
theorem ul_4_40 : Cond.instanceMethod yX8_at ∈ UL := ul_in4 (List.mem_of_getElem? (i := 40) rfl) rfl
theorem ul_4_41 : Cond.selects RX8 yX8_at yX8_at ∈ UL := ul_in4 (List.mem_of_getElem? (i := 41) rfl) rfl
theorem ul_4_42 : Cond.code yX8_at cX8_at 4 (some .int) ∈ UL := ul_in4 (List.mem_of_getElem? (i := 42) rfl) rfl
theorem ul_4_43 : Cond.methodLink RL 106 yX8_ticks ∈ UL := ul_in4 (List.mem_of_getElem? (i := 43) rfl) rfl
theorem ul_4_44 : Cond.instanceMethod yX8_ticks ∈ UL := ul_in4 (List.mem_of_getElem? (i := 44) rfl) rfl
theorem ul_4_45 : Cond.selects RX8 yX8_ticks yX8_ticks ∈ UL := ul_in4 (List.mem_of_getElem? (i := 45) rfl) rfl
theorem ul_4_46 : Cond.code yX8_ticks cX8_ticks 3 (some .int) ∈ UL := ul_in4 (List.mem_of_getElem? (i := 46) rfl) rfl
theorem ul_4_47 : Cond.methodLink RX8 233 yX4_passHour ∈ UL := ul_in4 (List.mem_of_getElem? (i := 47) rfl) rfl
theorem ul_4_48 : Cond.instanceMethod yX4_passHour ∈ UL := ul_in4 (List.mem_of_getElem? (i := 48) rfl) rfl
theorem ul_4_49 : Cond.selects RX4 yX4_passHour yX4_passHour ∈ UL := ul_in4 (List.mem_of_getElem? (i := 49) rfl) rfl
theorem ul_4_50 : Cond.code yX4_passHour cX4_passHour 2 none ∈ UL := ul_in4 (List.mem_of_getElem? (i := 50) rfl) rfl
theorem ul_4_51 : Cond.methodLink RX8 239 yX6_fireAt ∈ UL := ul_in4 (List.mem_of_getElem? (i := 51) rfl) rfl
theorem ul_4_52 : Cond.instanceMethod yX6_fireAt ∈ UL := ul_in4 (List.mem_of_getElem? (i := 52) rfl) rfl
theorem ul_4_53 : Cond.selects RX6 yX6_fireAt yX6_fireAt ∈ UL := ul_in4 (List.mem_of_getElem? (i := 53) rfl) rfl
theorem ul_4_54 : Cond.code yX6_fireAt cX6_fireAt 2 none ∈ UL := ul_in4 (List.mem_of_getElem? (i := 54) rfl) rfl
theorem ul_4_55 : Cond.methodLink RX6 46 yX6_clearRow ∈ UL := ul_in4 (List.mem_of_getElem? (i := 55) rfl) rfl
theorem ul_4_56 : Cond.methodLink RX6 53 yX6_runRow ∈ UL := ul_in4 (List.mem_of_getElem? (i := 56) rfl) rfl
theorem ul_4_57 : Cond.methodLink RL 110 yX8_quarrel ∈ UL := ul_in4 (List.mem_of_getElem? (i := 57) rfl) rfl
theorem ul_4_58 : Cond.instanceMethod yX8_quarrel ∈ UL := ul_in4 (List.mem_of_getElem? (i := 58) rfl) rfl
theorem ul_4_59 : Cond.selects RX8 yX8_quarrel yX8_quarrel ∈ UL := ul_in4 (List.mem_of_getElem? (i := 59) rfl) rfl
theorem ul_4_60 : Cond.code yX8_quarrel cX8_quarrel 1 (some .int) ∈ UL := ul_in4 (List.mem_of_getElem? (i := 60) rfl) rfl
theorem ul_4_61 : Cond.methodLink RX8 242 yX6_firstQuarrel ∈ UL := ul_in4 (List.mem_of_getElem? (i := 61) rfl) rfl
theorem ul_4_62 : Cond.instanceMethod yX6_firstQuarrel ∈ UL := ul_in4 (List.mem_of_getElem? (i := 62) rfl) rfl
theorem ul_4_63 : Cond.selects RX6 yX6_firstQuarrel yX6_firstQuarrel ∈ UL := ul_in4 (List.mem_of_getElem? (i := 63) rfl) rfl
theorem ul_4_64 : Cond.code yX6_firstQuarrel cX6_firstQuarrel 3 (some .int) ∈ UL := ul_in4 (List.mem_of_getElem? (i := 64) rfl) rfl
theorem ul_4_65 : Cond.methodLink RL 114 yX8_wake ∈ UL := ul_in4 (List.mem_of_getElem? (i := 65) rfl) rfl
theorem ul_4_66 : Cond.instanceMethod yX8_wake ∈ UL := ul_in4 (List.mem_of_getElem? (i := 66) rfl) rfl
theorem ul_4_67 : Cond.selects RX8 yX8_wake yX8_wake ∈ UL := ul_in4 (List.mem_of_getElem? (i := 67) rfl) rfl
theorem ul_4_68 : Cond.code yX8_wake cX8_wake 1 (some .int) ∈ UL := ul_in4 (List.mem_of_getElem? (i := 68) rfl) rfl
theorem ul_4_69 : Cond.methodLink RX8 245 yX6_firstSelfWaker ∈ UL := ul_in4 (List.mem_of_getElem? (i := 69) rfl) rfl
theorem ul_4_70 : Cond.instanceMethod yX6_firstSelfWaker ∈ UL := ul_in4 (List.mem_of_getElem? (i := 70) rfl) rfl
theorem ul_4_71 : Cond.selects RX6 yX6_firstSelfWaker yX6_firstSelfWaker ∈ UL := ul_in4 (List.mem_of_getElem? (i := 71) rfl) rfl
theorem ul_4_72 : Cond.code yX6_firstSelfWaker cX6_firstSelfWaker 2 (some .int) ∈ UL := ul_in4 (List.mem_of_getElem? (i := 72) rfl) rfl
theorem ul_4_73 : Cond.methodLink RX6 78 yX6_allWokenBy ∈ UL := ul_in4 (List.mem_of_getElem? (i := 73) rfl) rfl
theorem ul_4_75 : Cond.instanceMethod yX6_allWokenBy ∈ UL := ul_in4 (List.mem_of_getElem? (i := 75) rfl) rfl
theorem ul_4_76 : Cond.code yX6_allWokenBy cX6_allWokenBy 5 (some .int) ∈ UL := ul_in4 (List.mem_of_getElem? (i := 76) rfl) rfl
theorem ul_4_77 : Cond.methodLink RX6 85 yX6_wokenAtOnceBy ∈ UL := ul_in4 (List.mem_of_getElem? (i := 77) rfl) rfl
theorem ul_4_79 : Cond.instanceMethod yX6_wokenAtOnceBy ∈ UL := ul_in4 (List.mem_of_getElem? (i := 79) rfl) rfl
theorem ul_4_80 : Cond.code yX6_wokenAtOnceBy cX6_wokenAtOnceBy 4 (some .int) ∈ UL := ul_in4 (List.mem_of_getElem? (i := 80) rfl) rfl
theorem ul_4_82 : Cond.methodLink RL 118 yX8_show ∈ UL := ul_in4 (List.mem_of_getElem? (i := 82) rfl) rfl
theorem ul_4_83 : Cond.instanceMethod yX8_show ∈ UL := ul_in4 (List.mem_of_getElem? (i := 83) rfl) rfl
theorem ul_4_84 : Cond.selects RX8 yX8_show yX8_show ∈ UL := ul_in4 (List.mem_of_getElem? (i := 84) rfl) rfl
theorem ul_4_85 : Cond.code yX8_show cX8_show 1 (some .int) ∈ UL := ul_in4 (List.mem_of_getElem? (i := 85) rfl) rfl
theorem ul_4_86 : Cond.methodLink RX8 248 yX2_fewestToBarred ∈ UL := ul_in4 (List.mem_of_getElem? (i := 86) rfl) rfl
theorem ul_4_87 : Cond.instanceMethod yX2_fewestToBarred ∈ UL := ul_in4 (List.mem_of_getElem? (i := 87) rfl) rfl
theorem ul_4_88 : Cond.selects RX2 yX2_fewestToBarred yX2_fewestToBarred ∈ UL := ul_in4 (List.mem_of_getElem? (i := 88) rfl) rfl
theorem ul_4_89 : Cond.code yX2_fewestToBarred cX2_fewestToBarred 4 (some .int) ∈ UL := ul_in4 (List.mem_of_getElem? (i := 89) rfl) rfl
theorem ul_4_90 : Cond.methodLink RX2 47 yX5_barring ∈ UL := ul_in4 (List.mem_of_getElem? (i := 90) rfl) rfl
theorem ul_4_91 : Cond.methodLink RX2 51 yJ7_fill_53178 ∈ UL := ul_in4 (List.mem_of_getElem? (i := 91) rfl) rfl
theorem ul_4_92 : Cond.methodLink RX2 60 yX2_reach ∈ UL := ul_in4 (List.mem_of_getElem? (i := 92) rfl) rfl
theorem ul_4_94 : Cond.instanceMethod yX2_reach ∈ UL := ul_in4 (List.mem_of_getElem? (i := 94) rfl) rfl
theorem ul_4_95 : Cond.code yX2_reach cX2_reach 5 none ∈ UL := ul_in4 (List.mem_of_getElem? (i := 95) rfl) rfl
theorem ul_4_96 : Cond.methodLink RX2 64 yX2_comesToBarredFrom ∈ UL := ul_in4 (List.mem_of_getElem? (i := 96) rfl) rfl
theorem ul_4_98 : Cond.instanceMethod yX2_comesToBarredFrom ∈ UL := ul_in4 (List.mem_of_getElem? (i := 98) rfl) rfl
theorem ul_4_99 : Cond.code yX2_comesToBarredFrom cX2_comesToBarredFrom 6 (some .boolean) ∈ UL := ul_in4 (List.mem_of_getElem? (i := 99) rfl) rfl
theorem ul_4_100 : Cond.methodLink RX2 79 yX6_firesByHour ∈ UL := ul_in4 (List.mem_of_getElem? (i := 100) rfl) rfl
theorem ul_4_101 : Cond.instanceMethod yX6_firesByHour ∈ UL := ul_in4 (List.mem_of_getElem? (i := 101) rfl) rfl
theorem ul_4_102 : Cond.selects RX6 yX6_firesByHour yX6_firesByHour ∈ UL := ul_in4 (List.mem_of_getElem? (i := 102) rfl) rfl
theorem ul_4_103 : Cond.code yX6_firesByHour cX6_firesByHour 3 (some .boolean) ∈ UL := ul_in4 (List.mem_of_getElem? (i := 103) rfl) rfl
theorem ul_4_106 : Cond.methodLink RX2 86 yX6_statesByFiring ∈ UL := ul_in4 (List.mem_of_getElem? (i := 106) rfl) rfl
theorem ul_4_107 : Cond.instanceMethod yX6_statesByFiring ∈ UL := ul_in4 (List.mem_of_getElem? (i := 107) rfl) rfl
theorem ul_4_108 : Cond.selects RX6 yX6_statesByFiring yX6_statesByFiring ∈ UL := ul_in4 (List.mem_of_getElem? (i := 108) rfl) rfl
theorem ul_4_109 : Cond.code yX6_statesByFiring cX6_statesByFiring 10 (some .int) ∈ UL := ul_in4 (List.mem_of_getElem? (i := 109) rfl) rfl
theorem ul_4_110 : Cond.methodLink RX6 92 yX5_barring ∈ UL := ul_in4 (List.mem_of_getElem? (i := 110) rfl) rfl
theorem ul_4_111 : Cond.constantLong RX6 96 (Int64.ofInt (-1)) ∈ UL := ul_in4 (List.mem_of_getElem? (i := 111) rfl) rfl
theorem ul_4_112 : Cond.methodLink RX2 68 yJ6_bitCount_0f7a4 ∈ UL := ul_in4 (List.mem_of_getElem? (i := 112) rfl) rfl
theorem ul_4_113 : Cond.methodLink RL 122 yX8_habits ∈ UL := ul_in4 (List.mem_of_getElem? (i := 113) rfl) rfl
theorem ul_4_114 : Cond.instanceMethod yX8_habits ∈ UL := ul_in4 (List.mem_of_getElem? (i := 114) rfl) rfl
theorem ul_4_115 : Cond.selects RX8 yX8_habits yX8_habits ∈ UL := ul_in4 (List.mem_of_getElem? (i := 115) rfl) rfl
theorem ul_4_116 : Cond.code yX8_habits cX8_habits 4 (some .int) ∈ UL := ul_in4 (List.mem_of_getElem? (i := 116) rfl) rfl
theorem ul_4_117 : Cond.methodLink RX8 251 yX1_gatherDays ∈ UL := ul_in4 (List.mem_of_getElem? (i := 117) rfl) rfl
theorem ul_4_118 : Cond.instanceMethod yX1_gatherDays ∈ UL := ul_in4 (List.mem_of_getElem? (i := 118) rfl) rfl
theorem ul_4_119 : Cond.selects RX1 yX1_gatherDays yX1_gatherDays ∈ UL := ul_in4 (List.mem_of_getElem? (i := 119) rfl) rfl
theorem ul_4_120 : Cond.code yX1_gatherDays cX1_gatherDays 5 none ∈ UL := ul_in4 (List.mem_of_getElem? (i := 120) rfl) rfl
theorem ul_4_121 : Cond.methodLink RX1 44 yJ7_fill_53178 ∈ UL := ul_in4 (List.mem_of_getElem? (i := 121) rfl) rfl
theorem ul_4_122 : Cond.methodLink RX8 254 yX1_howMany ∈ UL := ul_in4 (List.mem_of_getElem? (i := 122) rfl) rfl
theorem ul_4_123 : Cond.instanceMethod yX1_howMany ∈ UL := ul_in4 (List.mem_of_getElem? (i := 123) rfl) rfl
theorem ul_4_124 : Cond.selects RX1 yX1_howMany yX1_howMany ∈ UL := ul_in4 (List.mem_of_getElem? (i := 124) rfl) rfl
theorem ul_4_125 : Cond.code yX1_howMany cX1_howMany 4 (some .int) ∈ UL := ul_in4 (List.mem_of_getElem? (i := 125) rfl) rfl
theorem ul_4_126 : Cond.methodLink RX1 50 yJ6_bitCount_0f7a4 ∈ UL := ul_in4 (List.mem_of_getElem? (i := 126) rfl) rfl
theorem ul_4_127 : Cond.methodLink RX8 257 yX1_habit ∈ UL := ul_in4 (List.mem_of_getElem? (i := 127) rfl) rfl
theorem ul_4_128 : Cond.instanceMethod yX1_habit ∈ UL := ul_in4 (List.mem_of_getElem? (i := 128) rfl) rfl
theorem ul_4_129 : Cond.selects RX1 yX1_habit yX1_habit ∈ UL := ul_in4 (List.mem_of_getElem? (i := 129) rfl) rfl
theorem ul_4_130 : Cond.code yX1_habit cX1_habit 5 (some .int) ∈ UL := ul_in4 (List.mem_of_getElem? (i := 130) rfl) rfl
theorem ul_4_131 : Cond.methodLink RX1 56 yX1_toldAs ∈ UL := ul_in4 (List.mem_of_getElem? (i := 131) rfl) rfl
theorem ul_4_132 : Cond.static yX1_toldAs ∈ UL := ul_in4 (List.mem_of_getElem? (i := 132) rfl) rfl
theorem ul_4_133 : Cond.code yX1_toldAs cX1_toldAs 3 (some .int) ∈ UL := ul_in4 (List.mem_of_getElem? (i := 133) rfl) rfl
theorem ul_4_134 : Cond.methodLink RL 126 yX8_keepHabit ∈ UL := ul_in4 (List.mem_of_getElem? (i := 134) rfl) rfl
theorem ul_4_135 : Cond.instanceMethod yX8_keepHabit ∈ UL := ul_in4 (List.mem_of_getElem? (i := 135) rfl) rfl
theorem ul_4_136 : Cond.selects RX8 yX8_keepHabit yX8_keepHabit ∈ UL := ul_in4 (List.mem_of_getElem? (i := 136) rfl) rfl
theorem ul_4_137 : Cond.code yX8_keepHabit cX8_keepHabit 5 (some .int) ∈ UL := ul_in4 (List.mem_of_getElem? (i := 137) rfl) rfl
theorem ul_4_138 : Cond.methodLink RL 130 yX8_forget ∈ UL := ul_in4 (List.mem_of_getElem? (i := 138) rfl) rfl
theorem ul_4_139 : Cond.instanceMethod yX8_forget ∈ UL := ul_in4 (List.mem_of_getElem? (i := 139) rfl) rfl
theorem ul_4_140 : Cond.selects RX8 yX8_forget yX8_forget ∈ UL := ul_in4 (List.mem_of_getElem? (i := 140) rfl) rfl
theorem ul_4_141 : Cond.code yX8_forget cX8_forget 2 (some .int) ∈ UL := ul_in4 (List.mem_of_getElem? (i := 141) rfl) rfl
theorem ul_4_142 : Cond.methodLink RX8 260 yX1_drop ∈ UL := ul_in4 (List.mem_of_getElem? (i := 142) rfl) rfl
theorem ul_4_143 : Cond.instanceMethod yX1_drop ∈ UL := ul_in4 (List.mem_of_getElem? (i := 143) rfl) rfl
theorem ul_4_144 : Cond.selects RX1 yX1_drop yX1_drop ∈ UL := ul_in4 (List.mem_of_getElem? (i := 144) rfl) rfl
theorem ul_4_145 : Cond.code yX1_drop cX1_drop 4 (some .int) ∈ UL := ul_in4 (List.mem_of_getElem? (i := 145) rfl) rfl
theorem ul_4_146 : Cond.methodLink RL 134 yX8_cost ∈ UL := ul_in4 (List.mem_of_getElem? (i := 146) rfl) rfl
theorem ul_4_147 : Cond.instanceMethod yX8_cost ∈ UL := ul_in4 (List.mem_of_getElem? (i := 147) rfl) rfl
theorem ul_4_148 : Cond.selects RX8 yX8_cost yX8_cost ∈ UL := ul_in4 (List.mem_of_getElem? (i := 148) rfl) rfl
theorem ul_4_149 : Cond.code yX8_cost cX8_cost 2 (some .int) ∈ UL := ul_in4 (List.mem_of_getElem? (i := 149) rfl) rfl
theorem ul_4_150 : Cond.methodLink RX8 263 yX4_spentInAll ∈ UL := ul_in4 (List.mem_of_getElem? (i := 150) rfl) rfl
theorem ul_4_151 : Cond.instanceMethod yX4_spentInAll ∈ UL := ul_in4 (List.mem_of_getElem? (i := 151) rfl) rfl
theorem ul_4_152 : Cond.selects RX4 yX4_spentInAll yX4_spentInAll ∈ UL := ul_in4 (List.mem_of_getElem? (i := 152) rfl) rfl
theorem ul_4_153 : Cond.code yX4_spentInAll cX4_spentInAll 3 (some .int) ∈ UL := ul_in4 (List.mem_of_getElem? (i := 153) rfl) rfl
theorem ul_4_154 : Cond.methodLink RL 138 yX8_why ∈ UL := ul_in4 (List.mem_of_getElem? (i := 154) rfl) rfl
theorem ul_4_155 : Cond.instanceMethod yX8_why ∈ UL := ul_in4 (List.mem_of_getElem? (i := 155) rfl) rfl
theorem ul_4_156 : Cond.selects RX8 yX8_why yX8_why ∈ UL := ul_in4 (List.mem_of_getElem? (i := 156) rfl) rfl
theorem ul_4_157 : Cond.code yX8_why cX8_why 2 (some .int) ∈ UL := ul_in4 (List.mem_of_getElem? (i := 157) rfl) rfl
theorem ul_4_158 : Cond.methodLink RL 142 yX8_count ∈ UL := ul_in4 (List.mem_of_getElem? (i := 158) rfl) rfl
theorem ul_4_159 : Cond.instanceMethod yX8_count ∈ UL := ul_in4 (List.mem_of_getElem? (i := 159) rfl) rfl
theorem ul_4_160 : Cond.selects RX8 yX8_count yX8_count ∈ UL := ul_in4 (List.mem_of_getElem? (i := 160) rfl) rfl
theorem ul_4_161 : Cond.code yX8_count cX8_count 2 (some .int) ∈ UL := ul_in4 (List.mem_of_getElem? (i := 161) rfl) rfl
theorem ul_4_162 : Cond.classLink RL 10 RX9 ∈ UL := ul_in4 (List.mem_of_getElem? (i := 162) rfl) rfl
theorem ul_4_163 : Cond.instantiable RX9 52 ∈ UL := ul_in4 (List.mem_of_getElem? (i := 163) rfl) rfl
theorem ul_4_164 : Cond.methodLink RL 12 yX9_init ∈ UL := ul_in4 (List.mem_of_getElem? (i := 164) rfl) rfl
theorem ul_4_165 : Cond.instanceMethod yX9_init ∈ UL := ul_in4 (List.mem_of_getElem? (i := 165) rfl) rfl
theorem ul_4_166 : Cond.code yX9_init cX9_init 2 none ∈ UL := ul_in4 (List.mem_of_getElem? (i := 166) rfl) rfl
theorem ul_4_167 : Cond.methodLink RX9 1 objectInit ∈ UL := ul_in4 (List.mem_of_getElem? (i := 167) rfl) rfl
theorem ul_4_168 : Cond.fieldLink RX9 113 "HeededWishesModel" "thingMany" "I" ∈ UL := ul_in4 (List.mem_of_getElem? (i := 168) rfl) rfl
theorem ul_4_169 : Cond.fieldLink RX9 7 "HeededWishesModel" "roomOf" "[I" ∈ UL := ul_in4 (List.mem_of_getElem? (i := 169) rfl) rfl
theorem ul_4_170 : Cond.fieldLink RX9 13 "HeededWishesModel" "sortOf" "[I" ∈ UL := ul_in4 (List.mem_of_getElem? (i := 170) rfl) rfl
theorem ul_4_171 : Cond.fieldLink RX9 16 "HeededWishesModel" "costOf" "[I" ∈ UL := ul_in4 (List.mem_of_getElem? (i := 171) rfl) rfl
theorem ul_4_172 : Cond.fieldLink RX9 19 "HeededWishesModel" "spent" "[I" ∈ UL := ul_in4 (List.mem_of_getElem? (i := 172) rfl) rfl
theorem ul_4_173 : Cond.fieldLink RX9 22 "HeededWishesModel" "states" "[I" ∈ UL := ul_in4 (List.mem_of_getElem? (i := 173) rfl) rfl
theorem ul_4_174 : Cond.fieldLink RX9 25 "HeededWishesModel" "reasons" "[I" ∈ UL := ul_in4 (List.mem_of_getElem? (i := 174) rfl) rfl
theorem ul_4_175 : Cond.fieldLink RX9 28 "HeededWishesModel" "folkRoom" "[I" ∈ UL := ul_in4 (List.mem_of_getElem? (i := 175) rfl) rfl
theorem ul_4_176 : Cond.fieldLink RX9 266 "HeededWishesModel" "hour" "I" ∈ UL := ul_in4 (List.mem_of_getElem? (i := 176) rfl) rfl
theorem ul_4_177 : Cond.fieldLink RX9 31 "HeededWishesModel" "doubts" "[I" ∈ UL := ul_in4 (List.mem_of_getElem? (i := 177) rfl) rfl
theorem ul_4_178 : Cond.fieldLink RX9 139 "HeededWishesModel" "wordMany" "I" ∈ UL := ul_in4 (List.mem_of_getElem? (i := 178) rfl) rfl
theorem ul_4_179 : Cond.fieldLink RX9 34 "HeededWishesModel" "kinds" "[I" ∈ UL := ul_in4 (List.mem_of_getElem? (i := 179) rfl) rfl
theorem ul_4_180 : Cond.fieldLink RX9 37 "HeededWishesModel" "numbers" "[I" ∈ UL := ul_in4 (List.mem_of_getElem? (i := 180) rfl) rfl
theorem ul_4_181 : Cond.fieldLink RX9 40 "HeededWishesModel" "soundMany" "[I" ∈ UL := ul_in4 (List.mem_of_getElem? (i := 181) rfl) rfl
theorem ul_4_182 : Cond.fieldLink RX9 43 "HeededWishesModel" "sounds" "[I" ∈ UL := ul_in4 (List.mem_of_getElem? (i := 182) rfl) rfl
theorem ul_4_183 : Cond.fieldLink RX9 46 "HeededWishesModel" "rules" "[I" ∈ UL := ul_in4 (List.mem_of_getElem? (i := 183) rfl) rfl
theorem ul_4_184 : Cond.fieldLink RX9 150 "HeededWishesModel" "length" "I" ∈ UL := ul_in4 (List.mem_of_getElem? (i := 184) rfl) rfl
theorem ul_4_185 : Cond.fieldLink RX9 49 "HeededWishesModel" "text" "[I" ∈ UL := ul_in4 (List.mem_of_getElem? (i := 185) rfl) rfl
theorem ul_4_186 : Cond.fieldLink RX9 52 "HeededWishesModel" "itemMany" "[I" ∈ UL := ul_in4 (List.mem_of_getElem? (i := 186) rfl) rfl
theorem ul_4_187 : Cond.fieldLink RX9 55 "HeededWishesModel" "items" "[I" ∈ UL := ul_in4 (List.mem_of_getElem? (i := 187) rfl) rfl
theorem ul_4_188 : Cond.fieldLink RX9 226 "HeededWishesModel" "isHeard" "Z" ∈ UL := ul_in4 (List.mem_of_getElem? (i := 188) rfl) rfl
theorem ul_4_189 : Cond.fieldLink RX9 202 "HeededWishesModel" "speaker" "I" ∈ UL := ul_in4 (List.mem_of_getElem? (i := 189) rfl) rfl
theorem ul_4_190 : Cond.fieldLink RX9 230 "HeededWishesModel" "isGuest" "Z" ∈ UL := ul_in4 (List.mem_of_getElem? (i := 190) rfl) rfl
theorem ul_4_191 : Cond.fieldLink RX9 219 "HeededWishesModel" "readingMany" "I" ∈ UL := ul_in4 (List.mem_of_getElem? (i := 191) rfl) rfl
theorem ul_4_192 : Cond.fieldLink RX9 58 "HeededWishesModel" "prices" "[I" ∈ UL := ul_in4 (List.mem_of_getElem? (i := 192) rfl) rfl
theorem ul_4_193 : Cond.fieldLink RX9 61 "HeededWishesModel" "parts" "[I" ∈ UL := ul_in4 (List.mem_of_getElem? (i := 193) rfl) rfl
theorem ul_4_194 : Cond.fieldLink RX9 64 "HeededWishesModel" "meant" "[I" ∈ UL := ul_in4 (List.mem_of_getElem? (i := 194) rfl) rfl
theorem ul_4_195 : Cond.fieldLink RX9 67 "HeededWishesModel" "isOpen" "[Z" ∈ UL := ul_in4 (List.mem_of_getElem? (i := 195) rfl) rfl
theorem ul_4_196 : Cond.fieldLink RX9 205 "HeededWishesModel" "last" "I" ∈ UL := ul_in4 (List.mem_of_getElem? (i := 196) rfl) rfl
theorem ul_4_197 : Cond.fieldLink RX9 269 "HeededWishesModel" "doneMany" "I" ∈ UL := ul_in4 (List.mem_of_getElem? (i := 197) rfl) rfl
theorem ul_4_198 : Cond.fieldLink RX9 71 "HeededWishesModel" "changed" "[I" ∈ UL := ul_in4 (List.mem_of_getElem? (i := 198) rfl) rfl
theorem ul_4_199 : Cond.fieldLink RX9 74 "HeededWishesModel" "ahead" "[I" ∈ UL := ul_in4 (List.mem_of_getElem? (i := 199) rfl) rfl
theorem ul_4_200 : Cond.fieldLink RX9 77 "HeededWishesModel" "isBack" "[Z" ∈ UL := ul_in4 (List.mem_of_getElem? (i := 200) rfl) rfl
theorem ul_4_201 : Cond.fieldLink RX9 245 "HeededWishesModel" "standMany" "I" ∈ UL := ul_in4 (List.mem_of_getElem? (i := 201) rfl) rfl
theorem ul_4_202 : Cond.fieldLink RX9 80 "HeededWishesModel" "stands" "[I" ∈ UL := ul_in4 (List.mem_of_getElem? (i := 202) rfl) rfl
theorem ul_4_203 : Cond.fieldLink RX9 257 "HeededWishesModel" "held" "I" ∈ UL := ul_in4 (List.mem_of_getElem? (i := 203) rfl) rfl
theorem ul_4_204 : Cond.fieldLink RX9 263 "HeededWishesModel" "logMany" "I" ∈ UL := ul_in4 (List.mem_of_getElem? (i := 204) rfl) rfl
theorem ul_4_205 : Cond.fieldLink RX9 83 "HeededWishesModel" "logs" "[I" ∈ UL := ul_in4 (List.mem_of_getElem? (i := 205) rfl) rfl
theorem ul_4_206 : Cond.fieldLink RX9 309 "HeededWishesModel" "forgotten" "I" ∈ UL := ul_in4 (List.mem_of_getElem? (i := 206) rfl) rfl
theorem ul_4_207 : Cond.fieldLink RX9 155 "HeededWishesModel" "at" "I" ∈ UL := ul_in4 (List.mem_of_getElem? (i := 207) rfl) rfl
theorem ul_4_208 : Cond.fieldLink RX9 86 "HeededWishesModel" "told" "[I" ∈ UL := ul_in4 (List.mem_of_getElem? (i := 208) rfl) rfl
theorem ul_4_209 : Cond.fieldLink RX9 89 "HeededWishesModel" "bared" "[Z" ∈ UL := ul_in4 (List.mem_of_getElem? (i := 209) rfl) rfl
theorem ul_4_210 : Cond.fieldLink RX9 188 "HeededWishesModel" "rowMany" "I" ∈ UL := ul_in4 (List.mem_of_getElem? (i := 210) rfl) rfl
theorem ul_4_211 : Cond.fieldLink RX9 92 "HeededWishesModel" "row" "[I" ∈ UL := ul_in4 (List.mem_of_getElem? (i := 211) rfl) rfl
theorem ul_4_212 : Cond.fieldLink RX9 195 "HeededWishesModel" "heardMany" "I" ∈ UL := ul_in4 (List.mem_of_getElem? (i := 212) rfl) rfl
theorem ul_4_213 : Cond.fieldLink RX9 95 "HeededWishesModel" "heard" "[I" ∈ UL := ul_in4 (List.mem_of_getElem? (i := 213) rfl) rfl
theorem ul_4_214 : Cond.fieldLink RX9 98 "HeededWishesModel" "least" "[I" ∈ UL := ul_in4 (List.mem_of_getElem? (i := 214) rfl) rfl
theorem ul_4_215 : Cond.fieldLink RX9 248 "HeededWishesModel" "fireMany" "I" ∈ UL := ul_in4 (List.mem_of_getElem? (i := 215) rfl) rfl
theorem ul_4_216 : Cond.fieldLink RX9 101 "HeededWishesModel" "fires" "[I" ∈ UL := ul_in4 (List.mem_of_getElem? (i := 216) rfl) rfl
theorem ul_4_217 : Cond.fieldLink RX9 104 "HeededWishesModel" "hours" "[I" ∈ UL := ul_in4 (List.mem_of_getElem? (i := 217) rfl) rfl
theorem ul_4_218 : Cond.fieldLink RX9 107 "HeededWishesModel" "order" "[I" ∈ UL := ul_in4 (List.mem_of_getElem? (i := 218) rfl) rfl
theorem ul_4_219 : Cond.fieldLink RX9 110 "HeededWishesModel" "save" "[I" ∈ UL := ul_in4 (List.mem_of_getElem? (i := 219) rfl) rfl
theorem ul_5_85 : Cond.methodLink RL 17 yX9_thing ∈ UL := ul_in5 (List.mem_of_getElem? (i := 85) rfl) rfl
theorem ul_5_86 : Cond.instanceMethod yX9_thing ∈ UL := ul_in5 (List.mem_of_getElem? (i := 86) rfl) rfl
theorem ul_5_87 : Cond.selects RX9 yX9_thing yX9_thing ∈ UL := ul_in5 (List.mem_of_getElem? (i := 87) rfl) rfl
theorem ul_5_88 : Cond.code yX9_thing cX9_thing 4 (some .int) ∈ UL := ul_in5 (List.mem_of_getElem? (i := 88) rfl) rfl
theorem ul_5_89 : Cond.constantLong RX9 121 (Int64.ofInt (4)) ∈ UL := ul_in5 (List.mem_of_getElem? (i := 89) rfl) rfl
theorem ul_5_90 : Cond.methodLink RX9 117 yX9_in ∈ UL := ul_in5 (List.mem_of_getElem? (i := 90) rfl) rfl
theorem ul_5_91 : Cond.static yX9_in ∈ UL := ul_in5 (List.mem_of_getElem? (i := 91) rfl) rfl
theorem ul_5_92 : Cond.code yX9_in cX9_in 6 (some .boolean) ∈ UL := ul_in5 (List.mem_of_getElem? (i := 92) rfl) rfl
theorem ul_5_93 : Cond.constantLong RX9 123 (Int64.ofInt (3)) ∈ UL := ul_in5 (List.mem_of_getElem? (i := 93) rfl) rfl
theorem ul_5_94 : Cond.constantLong RX9 125 (Int64.ofInt (100)) ∈ UL := ul_in5 (List.mem_of_getElem? (i := 94) rfl) rfl
theorem ul_5_95 : Cond.methodLink RL 22 yX9_go ∈ UL := ul_in5 (List.mem_of_getElem? (i := 95) rfl) rfl
theorem ul_5_96 : Cond.instanceMethod yX9_go ∈ UL := ul_in5 (List.mem_of_getElem? (i := 96) rfl) rfl
theorem ul_5_97 : Cond.selects RX9 yX9_go yX9_go ∈ UL := ul_in5 (List.mem_of_getElem? (i := 97) rfl) rfl
theorem ul_5_98 : Cond.code yX9_go cX9_go 4 (some .int) ∈ UL := ul_in5 (List.mem_of_getElem? (i := 98) rfl) rfl
theorem ul_5_99 : Cond.constantLong RX9 127 (Int64.ofInt (5)) ∈ UL := ul_in5 (List.mem_of_getElem? (i := 99) rfl) rfl
theorem ul_5_100 : Cond.constantLong RX9 129 (Int64.ofInt (-1)) ∈ UL := ul_in5 (List.mem_of_getElem? (i := 100) rfl) rfl
theorem ul_5_101 : Cond.methodLink RL 27 yX9_state ∈ UL := ul_in5 (List.mem_of_getElem? (i := 101) rfl) rfl
theorem ul_5_102 : Cond.instanceMethod yX9_state ∈ UL := ul_in5 (List.mem_of_getElem? (i := 102) rfl) rfl
theorem ul_5_103 : Cond.selects RX9 yX9_state yX9_state ∈ UL := ul_in5 (List.mem_of_getElem? (i := 103) rfl) rfl
theorem ul_5_104 : Cond.code yX9_state cX9_state 2 (some .int) ∈ UL := ul_in5 (List.mem_of_getElem? (i := 104) rfl) rfl
theorem ul_5_105 : Cond.methodLink RX9 131 yX9_isThing ∈ UL := ul_in5 (List.mem_of_getElem? (i := 105) rfl) rfl
theorem ul_5_107 : Cond.instanceMethod yX9_isThing ∈ UL := ul_in5 (List.mem_of_getElem? (i := 107) rfl) rfl
theorem ul_5_108 : Cond.code yX9_isThing cX9_isThing 2 (some .boolean) ∈ UL := ul_in5 (List.mem_of_getElem? (i := 108) rfl) rfl
theorem ul_5_109 : Cond.methodLink RL 31 yX9_doubt ∈ UL := ul_in5 (List.mem_of_getElem? (i := 109) rfl) rfl
theorem ul_5_110 : Cond.instanceMethod yX9_doubt ∈ UL := ul_in5 (List.mem_of_getElem? (i := 110) rfl) rfl
theorem ul_5_111 : Cond.selects RX9 yX9_doubt yX9_doubt ∈ UL := ul_in5 (List.mem_of_getElem? (i := 111) rfl) rfl
theorem ul_5_112 : Cond.code yX9_doubt cX9_doubt 5 (some .int) ∈ UL := ul_in5 (List.mem_of_getElem? (i := 112) rfl) rfl
theorem ul_5_113 : Cond.constantLong RX9 135 (Int64.ofInt (15)) ∈ UL := ul_in5 (List.mem_of_getElem? (i := 113) rfl) rfl
theorem ul_5_114 : Cond.constantLong RX9 137 (Int64.ofInt (9)) ∈ UL := ul_in5 (List.mem_of_getElem? (i := 114) rfl) rfl
theorem ul_5_115 : Cond.methodLink RL 36 yX9_word ∈ UL := ul_in5 (List.mem_of_getElem? (i := 115) rfl) rfl
theorem ul_5_116 : Cond.instanceMethod yX9_word ∈ UL := ul_in5 (List.mem_of_getElem? (i := 116) rfl) rfl
theorem ul_5_117 : Cond.selects RX9 yX9_word yX9_word ∈ UL := ul_in5 (List.mem_of_getElem? (i := 117) rfl) rfl
theorem ul_5_118 : Cond.code yX9_word cX9_word 6 (some .int) ∈ UL := ul_in5 (List.mem_of_getElem? (i := 118) rfl) rfl
theorem ul_5_119 : Cond.methodLink RL 40 yX9_rule ∈ UL := ul_in5 (List.mem_of_getElem? (i := 119) rfl) rfl
theorem ul_5_120 : Cond.instanceMethod yX9_rule ∈ UL := ul_in5 (List.mem_of_getElem? (i := 120) rfl) rfl
theorem ul_5_121 : Cond.selects RX9 yX9_rule yX9_rule ∈ UL := ul_in5 (List.mem_of_getElem? (i := 121) rfl) rfl
theorem ul_5_122 : Cond.code yX9_rule cX9_rule 4 (some .int) ∈ UL := ul_in5 (List.mem_of_getElem? (i := 122) rfl) rfl
theorem ul_5_123 : Cond.constantLong RX9 142 (Int64.ofInt (2)) ∈ UL := ul_in5 (List.mem_of_getElem? (i := 123) rfl) rfl
theorem ul_5_124 : Cond.constantLong RX9 144 (Int64.ofInt (50)) ∈ UL := ul_in5 (List.mem_of_getElem? (i := 124) rfl) rfl
theorem ul_5_125 : Cond.constantLong RX9 146 (Int64.ofInt (20)) ∈ UL := ul_in5 (List.mem_of_getElem? (i := 125) rfl) rfl
theorem ul_5_126 : Cond.methodLink RL 47 yX9_write ∈ UL := ul_in5 (List.mem_of_getElem? (i := 126) rfl) rfl
theorem ul_5_127 : Cond.instanceMethod yX9_write ∈ UL := ul_in5 (List.mem_of_getElem? (i := 127) rfl) rfl
theorem ul_5_128 : Cond.selects RX9 yX9_write yX9_write ∈ UL := ul_in5 (List.mem_of_getElem? (i := 128) rfl) rfl
theorem ul_5_129 : Cond.code yX9_write cX9_write 5 (some .int) ∈ UL := ul_in5 (List.mem_of_getElem? (i := 129) rfl) rfl
theorem ul_5_130 : Cond.constantLong RX9 148 (Int64.ofInt (8)) ∈ UL := ul_in5 (List.mem_of_getElem? (i := 130) rfl) rfl
theorem ul_5_131 : Cond.constantLong RX9 153 (Int64.ofInt (255)) ∈ UL := ul_in5 (List.mem_of_getElem? (i := 131) rfl) rfl
theorem ul_5_132 : Cond.methodLink RL 52 yX9_wipe ∈ UL := ul_in5 (List.mem_of_getElem? (i := 132) rfl) rfl
theorem ul_5_133 : Cond.instanceMethod yX9_wipe ∈ UL := ul_in5 (List.mem_of_getElem? (i := 133) rfl) rfl
theorem ul_5_134 : Cond.selects RX9 yX9_wipe yX9_wipe ∈ UL := ul_in5 (List.mem_of_getElem? (i := 134) rfl) rfl
theorem ul_5_135 : Cond.code yX9_wipe cX9_wipe 2 (some .int) ∈ UL := ul_in5 (List.mem_of_getElem? (i := 135) rfl) rfl
theorem ul_5_136 : Cond.methodLink RL 56 yX9_fault ∈ UL := ul_in5 (List.mem_of_getElem? (i := 136) rfl) rfl
theorem ul_5_137 : Cond.instanceMethod yX9_fault ∈ UL := ul_in5 (List.mem_of_getElem? (i := 137) rfl) rfl
theorem ul_5_138 : Cond.selects RX9 yX9_fault yX9_fault ∈ UL := ul_in5 (List.mem_of_getElem? (i := 138) rfl) rfl
theorem ul_5_139 : Cond.code yX9_fault cX9_fault 1 (some .int) ∈ UL := ul_in5 (List.mem_of_getElem? (i := 139) rfl) rfl
theorem ul_5_140 : Cond.methodLink RX9 173 yX9_readAll ∈ UL := ul_in5 (List.mem_of_getElem? (i := 140) rfl) rfl
theorem ul_5_142 : Cond.instanceMethod yX9_readAll ∈ UL := ul_in5 (List.mem_of_getElem? (i := 142) rfl) rfl
theorem ul_5_143 : Cond.code yX9_readAll cX9_readAll 4 (some .int) ∈ UL := ul_in5 (List.mem_of_getElem? (i := 143) rfl) rfl
theorem ul_5_144 : Cond.methodLink RX9 169 yX9_item ∈ UL := ul_in5 (List.mem_of_getElem? (i := 144) rfl) rfl
theorem ul_5_146 : Cond.instanceMethod yX9_item ∈ UL := ul_in5 (List.mem_of_getElem? (i := 146) rfl) rfl
theorem ul_5_147 : Cond.code yX9_item cX9_item 3 (some .boolean) ∈ UL := ul_in5 (List.mem_of_getElem? (i := 147) rfl) rfl
theorem ul_5_148 : Cond.methodLink RX9 162 yX9_figures ∈ UL := ul_in5 (List.mem_of_getElem? (i := 148) rfl) rfl
theorem ul_5_150 : Cond.instanceMethod yX9_figures ∈ UL := ul_in5 (List.mem_of_getElem? (i := 150) rfl) rfl
theorem ul_5_151 : Cond.code yX9_figures cX9_figures 5 (some .boolean) ∈ UL := ul_in5 (List.mem_of_getElem? (i := 151) rfl) rfl
theorem ul_5_152 : Cond.constantLong RX9 158 (Int64.ofInt (48)) ∈ UL := ul_in5 (List.mem_of_getElem? (i := 152) rfl) rfl
theorem ul_5_153 : Cond.constantLong RX9 160 (Int64.ofInt (57)) ∈ UL := ul_in5 (List.mem_of_getElem? (i := 153) rfl) rfl
theorem ul_5_154 : Cond.constantLong RX9 165 (Int64.ofInt (6)) ∈ UL := ul_in5 (List.mem_of_getElem? (i := 154) rfl) rfl
theorem ul_5_155 : Cond.constantLong RX9 167 (Int64.ofInt (23)) ∈ UL := ul_in5 (List.mem_of_getElem? (i := 155) rfl) rfl
theorem ul_5_156 : Cond.methodLink RL 60 yX9_force ∈ UL := ul_in5 (List.mem_of_getElem? (i := 156) rfl) rfl
theorem ul_5_157 : Cond.instanceMethod yX9_force ∈ UL := ul_in5 (List.mem_of_getElem? (i := 157) rfl) rfl
theorem ul_5_158 : Cond.selects RX9 yX9_force yX9_force ∈ UL := ul_in5 (List.mem_of_getElem? (i := 158) rfl) rfl
theorem ul_5_159 : Cond.code yX9_force cX9_force 2 (some .int) ∈ UL := ul_in5 (List.mem_of_getElem? (i := 159) rfl) rfl
theorem ul_5_160 : Cond.methodLink RL 64 yX9_may ∈ UL := ul_in5 (List.mem_of_getElem? (i := 160) rfl) rfl
theorem ul_5_161 : Cond.instanceMethod yX9_may ∈ UL := ul_in5 (List.mem_of_getElem? (i := 161) rfl) rfl
theorem ul_5_162 : Cond.selects RX9 yX9_may yX9_may ∈ UL := ul_in5 (List.mem_of_getElem? (i := 162) rfl) rfl
theorem ul_5_163 : Cond.code yX9_may cX9_may 4 (some .int) ∈ UL := ul_in5 (List.mem_of_getElem? (i := 163) rfl) rfl
theorem ul_5_164 : Cond.methodLink RX9 177 yX9_mayTurn ∈ UL := ul_in5 (List.mem_of_getElem? (i := 164) rfl) rfl
theorem ul_5_166 : Cond.instanceMethod yX9_mayTurn ∈ UL := ul_in5 (List.mem_of_getElem? (i := 166) rfl) rfl
theorem ul_5_167 : Cond.code yX9_mayTurn cX9_mayTurn 8 (some .boolean) ∈ UL := ul_in5 (List.mem_of_getElem? (i := 167) rfl) rfl
theorem ul_5_168 : Cond.methodLink RL 68 yX9_barred ∈ UL := ul_in5 (List.mem_of_getElem? (i := 168) rfl) rfl
theorem ul_5_169 : Cond.instanceMethod yX9_barred ∈ UL := ul_in5 (List.mem_of_getElem? (i := 169) rfl) rfl
theorem ul_5_170 : Cond.selects RX9 yX9_barred yX9_barred ∈ UL := ul_in5 (List.mem_of_getElem? (i := 170) rfl) rfl
theorem ul_5_171 : Cond.code yX9_barred cX9_barred 3 (some .int) ∈ UL := ul_in5 (List.mem_of_getElem? (i := 171) rfl) rfl
theorem ul_5_172 : Cond.methodLink RX9 185 yX9_bars ∈ UL := ul_in5 (List.mem_of_getElem? (i := 172) rfl) rfl
theorem ul_5_174 : Cond.instanceMethod yX9_bars ∈ UL := ul_in5 (List.mem_of_getElem? (i := 174) rfl) rfl
theorem ul_5_175 : Cond.code yX9_bars cX9_bars 5 (some .boolean) ∈ UL := ul_in5 (List.mem_of_getElem? (i := 175) rfl) rfl
theorem ul_5_176 : Cond.methodLink RX9 181 yX9_stateOf ∈ UL := ul_in5 (List.mem_of_getElem? (i := 176) rfl) rfl
theorem ul_5_178 : Cond.instanceMethod yX9_stateOf ∈ UL := ul_in5 (List.mem_of_getElem? (i := 178) rfl) rfl
theorem ul_5_179 : Cond.code yX9_stateOf cX9_stateOf 2 (some .int) ∈ UL := ul_in5 (List.mem_of_getElem? (i := 179) rfl) rfl
theorem ul_5_180 : Cond.methodLink RL 73 yX9_hear ∈ UL := ul_in5 (List.mem_of_getElem? (i := 180) rfl) rfl
theorem ul_5_181 : Cond.instanceMethod yX9_hear ∈ UL := ul_in5 (List.mem_of_getElem? (i := 181) rfl) rfl
theorem ul_5_182 : Cond.selects RX9 yX9_hear yX9_hear ∈ UL := ul_in5 (List.mem_of_getElem? (i := 182) rfl) rfl
theorem ul_5_183 : Cond.code yX9_hear cX9_hear 8 (some .int) ∈ UL := ul_in5 (List.mem_of_getElem? (i := 183) rfl) rfl
theorem ul_5_184 : Cond.methodLink RX9 233 yX9_layReadings ∈ UL := ul_in5 (List.mem_of_getElem? (i := 184) rfl) rfl
theorem ul_5_186 : Cond.instanceMethod yX9_layReadings ∈ UL := ul_in5 (List.mem_of_getElem? (i := 186) rfl) rfl
theorem ul_5_187 : Cond.code yX9_layReadings cX9_layReadings 4 none ∈ UL := ul_in5 (List.mem_of_getElem? (i := 187) rfl) rfl
theorem ul_5_188 : Cond.methodLink RX9 222 yX9_take ∈ UL := ul_in5 (List.mem_of_getElem? (i := 188) rfl) rfl
theorem ul_5_190 : Cond.instanceMethod yX9_take ∈ UL := ul_in5 (List.mem_of_getElem? (i := 190) rfl) rfl
theorem ul_5_191 : Cond.code yX9_take cX9_take 9 none ∈ UL := ul_in5 (List.mem_of_getElem? (i := 191) rfl) rfl
theorem ul_5_192 : Cond.methodLink RX9 215 yX9_priceOf ∈ UL := ul_in5 (List.mem_of_getElem? (i := 192) rfl) rfl
theorem ul_5_194 : Cond.instanceMethod yX9_priceOf ∈ UL := ul_in5 (List.mem_of_getElem? (i := 194) rfl) rfl
theorem ul_5_195 : Cond.code yX9_priceOf cX9_priceOf 9 (some .int) ∈ UL := ul_in5 (List.mem_of_getElem? (i := 195) rfl) rfl
theorem ul_5_196 : Cond.methodLink RX9 191 yX9_addWord ∈ UL := ul_in5 (List.mem_of_getElem? (i := 196) rfl) rfl
theorem ul_5_198 : Cond.instanceMethod yX9_addWord ∈ UL := ul_in5 (List.mem_of_getElem? (i := 198) rfl) rfl
theorem ul_5_199 : Cond.code yX9_addWord cX9_addWord 3 none ∈ UL := ul_in5 (List.mem_of_getElem? (i := 199) rfl) rfl
theorem ul_5_200 : Cond.methodLink RX9 198 yX9_less ∈ UL := ul_in5 (List.mem_of_getElem? (i := 200) rfl) rfl
theorem ul_5_201 : Cond.static yX9_less ∈ UL := ul_in5 (List.mem_of_getElem? (i := 201) rfl) rfl
theorem ul_5_202 : Cond.code yX9_less cX9_less 2 (some .int) ∈ UL := ul_in5 (List.mem_of_getElem? (i := 202) rfl) rfl
theorem ul_5_203 : Cond.methodLink RX9 236 yX9_meaning ∈ UL := ul_in5 (List.mem_of_getElem? (i := 203) rfl) rfl
theorem ul_5_205 : Cond.instanceMethod yX9_meaning ∈ UL := ul_in5 (List.mem_of_getElem? (i := 205) rfl) rfl
theorem ul_5_206 : Cond.code yX9_meaning cX9_meaning 8 (some .int) ∈ UL := ul_in5 (List.mem_of_getElem? (i := 206) rfl) rfl
theorem ul_5_207 : Cond.methodLink RX9 208 yX9_has ∈ UL := ul_in5 (List.mem_of_getElem? (i := 207) rfl) rfl
theorem ul_5_208 : Cond.static yX9_has ∈ UL := ul_in5 (List.mem_of_getElem? (i := 208) rfl) rfl
theorem ul_5_209 : Cond.code yX9_has cX9_has 2 (some .boolean) ∈ UL := ul_in5 (List.mem_of_getElem? (i := 209) rfl) rfl
theorem ul_5_210 : Cond.methodLink RX9 212 yX9_greatest ∈ UL := ul_in5 (List.mem_of_getElem? (i := 210) rfl) rfl
theorem ul_5_211 : Cond.static yX9_greatest ∈ UL := ul_in5 (List.mem_of_getElem? (i := 211) rfl) rfl
theorem ul_5_212 : Cond.code yX9_greatest cX9_greatest 1 (some .int) ∈ UL := ul_in5 (List.mem_of_getElem? (i := 212) rfl) rfl
theorem ul_5_213 : Cond.methodLink RL 77 yX9_reading ∈ UL := ul_in5 (List.mem_of_getElem? (i := 213) rfl) rfl
theorem ul_5_214 : Cond.instanceMethod yX9_reading ∈ UL := ul_in5 (List.mem_of_getElem? (i := 214) rfl) rfl
theorem ul_5_215 : Cond.selects RX9 yX9_reading yX9_reading ∈ UL := ul_in5 (List.mem_of_getElem? (i := 215) rfl) rfl
theorem ul_5_216 : Cond.code yX9_reading cX9_reading 3 (some .int) ∈ UL := ul_in5 (List.mem_of_getElem? (i := 216) rfl) rfl
theorem ul_5_217 : Cond.methodLink RL 81 yX9_open ∈ UL := ul_in5 (List.mem_of_getElem? (i := 217) rfl) rfl
theorem ul_5_218 : Cond.instanceMethod yX9_open ∈ UL := ul_in5 (List.mem_of_getElem? (i := 218) rfl) rfl
theorem ul_5_219 : Cond.selects RX9 yX9_open yX9_open ∈ UL := ul_in5 (List.mem_of_getElem? (i := 219) rfl) rfl
theorem ul_5_220 : Cond.code yX9_open cX9_open 1 (some .int) ∈ UL := ul_in5 (List.mem_of_getElem? (i := 220) rfl) rfl
theorem ul_5_221 : Cond.methodLink RX9 242 yX9_unlikeMany ∈ UL := ul_in5 (List.mem_of_getElem? (i := 221) rfl) rfl
theorem ul_5_223 : Cond.instanceMethod yX9_unlikeMany ∈ UL := ul_in5 (List.mem_of_getElem? (i := 223) rfl) rfl
theorem ul_5_224 : Cond.code yX9_unlikeMany cX9_unlikeMany 5 (some .int) ∈ UL := ul_in5 (List.mem_of_getElem? (i := 224) rfl) rfl
theorem ul_5_225 : Cond.methodLink RX9 239 yX9_outcome ∈ UL := ul_in5 (List.mem_of_getElem? (i := 225) rfl) rfl
theorem ul_5_227 : Cond.instanceMethod yX9_outcome ∈ UL := ul_in5 (List.mem_of_getElem? (i := 227) rfl) rfl
theorem ul_5_228 : Cond.code yX9_outcome cX9_outcome 4 (some .int) ∈ UL := ul_in5 (List.mem_of_getElem? (i := 228) rfl) rfl
theorem ul_5_229 : Cond.methodLink RL 85 yX9_ask ∈ UL := ul_in5 (List.mem_of_getElem? (i := 229) rfl) rfl
theorem ul_5_230 : Cond.instanceMethod yX9_ask ∈ UL := ul_in5 (List.mem_of_getElem? (i := 230) rfl) rfl
theorem ul_5_231 : Cond.selects RX9 yX9_ask yX9_ask ∈ UL := ul_in5 (List.mem_of_getElem? (i := 231) rfl) rfl
theorem ul_5_232 : Cond.code yX9_ask cX9_ask 8 (some .int) ∈ UL := ul_in5 (List.mem_of_getElem? (i := 232) rfl) rfl
theorem ul_5_233 : Cond.methodLink RL 89 yX9_answer ∈ UL := ul_in5 (List.mem_of_getElem? (i := 233) rfl) rfl
theorem ul_5_234 : Cond.instanceMethod yX9_answer ∈ UL := ul_in5 (List.mem_of_getElem? (i := 234) rfl) rfl
theorem ul_5_235 : Cond.selects RX9 yX9_answer yX9_answer ∈ UL := ul_in5 (List.mem_of_getElem? (i := 235) rfl) rfl
theorem ul_5_236 : Cond.code yX9_answer cX9_answer 6 (some .int) ∈ UL := ul_in5 (List.mem_of_getElem? (i := 236) rfl) rfl
theorem ul_5_237 : Cond.methodLink RL 93 yX9_done ∈ UL := ul_in5 (List.mem_of_getElem? (i := 237) rfl) rfl
theorem ul_5_238 : Cond.instanceMethod yX9_done ∈ UL := ul_in5 (List.mem_of_getElem? (i := 238) rfl) rfl
theorem ul_5_239 : Cond.selects RX9 yX9_done yX9_done ∈ UL := ul_in5 (List.mem_of_getElem? (i := 239) rfl) rfl
theorem ul_6_0 : Cond.code yX9_done cX9_done 7 (some .int) ∈ UL := ul_in6 (List.mem_of_getElem? (i := 0) rfl) rfl
theorem ul_6_1 : Cond.methodLink RX9 251 yX9_layBars ∈ UL := ul_in6 (List.mem_of_getElem? (i := 1) rfl) rfl
theorem ul_6_3 : Cond.instanceMethod yX9_layBars ∈ UL := ul_in6 (List.mem_of_getElem? (i := 3) rfl) rfl
theorem ul_6_4 : Cond.code yX9_layBars cX9_layBars 2 none ∈ UL := ul_in6 (List.mem_of_getElem? (i := 4) rfl) rfl
theorem ul_6_5 : Cond.methodLink RX9 254 yX9_newBar ∈ UL := ul_in6 (List.mem_of_getElem? (i := 5) rfl) rfl
theorem ul_6_7 : Cond.instanceMethod yX9_newBar ∈ UL := ul_in6 (List.mem_of_getElem? (i := 7) rfl) rfl
theorem ul_6_8 : Cond.code yX9_newBar cX9_newBar 2 (some .boolean) ∈ UL := ul_in6 (List.mem_of_getElem? (i := 8) rfl) rfl
theorem ul_6_9 : Cond.methodLink RX9 272 yX9_log ∈ UL := ul_in6 (List.mem_of_getElem? (i := 9) rfl) rfl
theorem ul_6_11 : Cond.instanceMethod yX9_log ∈ UL := ul_in6 (List.mem_of_getElem? (i := 11) rfl) rfl
theorem ul_6_12 : Cond.code yX9_log cX9_log 4 none ∈ UL := ul_in6 (List.mem_of_getElem? (i := 12) rfl) rfl
theorem ul_6_13 : Cond.methodLink RX9 260 yX9_wakeBy ∈ UL := ul_in6 (List.mem_of_getElem? (i := 13) rfl) rfl
theorem ul_6_15 : Cond.instanceMethod yX9_wakeBy ∈ UL := ul_in6 (List.mem_of_getElem? (i := 15) rfl) rfl
theorem ul_6_16 : Cond.code yX9_wakeBy cX9_wakeBy 3 none ∈ UL := ul_in6 (List.mem_of_getElem? (i := 16) rfl) rfl
theorem ul_6_17 : Cond.methodLink RX9 276 yX9_bitsOf ∈ UL := ul_in6 (List.mem_of_getElem? (i := 17) rfl) rfl
theorem ul_6_18 : Cond.static yX9_bitsOf ∈ UL := ul_in6 (List.mem_of_getElem? (i := 18) rfl) rfl
theorem ul_6_19 : Cond.code yX9_bitsOf cX9_bitsOf 3 (some .int) ∈ UL := ul_in6 (List.mem_of_getElem? (i := 19) rfl) rfl
theorem ul_6_20 : Cond.methodLink RX9 279 yX9_fire ∈ UL := ul_in6 (List.mem_of_getElem? (i := 20) rfl) rfl
theorem ul_6_22 : Cond.instanceMethod yX9_fire ∈ UL := ul_in6 (List.mem_of_getElem? (i := 22) rfl) rfl
theorem ul_6_23 : Cond.code yX9_fire cX9_fire 8 none ∈ UL := ul_in6 (List.mem_of_getElem? (i := 23) rfl) rfl
theorem ul_6_24 : Cond.methodLink RL 97 yX9_undo ∈ UL := ul_in6 (List.mem_of_getElem? (i := 24) rfl) rfl
theorem ul_6_25 : Cond.instanceMethod yX9_undo ∈ UL := ul_in6 (List.mem_of_getElem? (i := 25) rfl) rfl
theorem ul_6_26 : Cond.selects RX9 yX9_undo yX9_undo ∈ UL := ul_in6 (List.mem_of_getElem? (i := 26) rfl) rfl
theorem ul_6_27 : Cond.code yX9_undo cX9_undo 4 (some .int) ∈ UL := ul_in6 (List.mem_of_getElem? (i := 27) rfl) rfl
theorem ul_6_28 : Cond.methodLink RL 101 yX9_when ∈ UL := ul_in6 (List.mem_of_getElem? (i := 28) rfl) rfl
theorem ul_6_29 : Cond.instanceMethod yX9_when ∈ UL := ul_in6 (List.mem_of_getElem? (i := 29) rfl) rfl
theorem ul_6_30 : Cond.selects RX9 yX9_when yX9_when ∈ UL := ul_in6 (List.mem_of_getElem? (i := 30) rfl) rfl
theorem ul_6_31 : Cond.code yX9_when cX9_when 5 (some .int) ∈ UL := ul_in6 (List.mem_of_getElem? (i := 31) rfl) rfl
theorem ul_6_32 : Cond.methodLink RX9 282 yX9_isState ∈ UL := ul_in6 (List.mem_of_getElem? (i := 32) rfl) rfl
theorem ul_6_34 : Cond.instanceMethod yX9_isState ∈ UL := ul_in6 (List.mem_of_getElem? (i := 34) rfl) rfl
theorem ul_6_35 : Cond.code yX9_isState cX9_isState 3 (some .boolean) ∈ UL := ul_in6 (List.mem_of_getElem? (i := 35) rfl) rfl
theorem ul_6_36 : Cond.methodLink RX9 285 yX9_stand ∈ UL := ul_in6 (List.mem_of_getElem? (i := 36) rfl) rfl
theorem ul_6_38 : Cond.instanceMethod yX9_stand ∈ UL := ul_in6 (List.mem_of_getElem? (i := 38) rfl) rfl
theorem ul_6_39 : Cond.code yX9_stand cX9_stand 7 (some .int) ∈ UL := ul_in6 (List.mem_of_getElem? (i := 39) rfl) rfl
theorem ul_6_40 : Cond.methodLink RL 105 yX9_at ∈ UL := ul_in6 (List.mem_of_getElem? (i := 40) rfl) rfl
theorem ul_6_41 : Cond.instanceMethod yX9_at ∈ UL := ul_in6 (List.mem_of_getElem? (i := 41) rfl) rfl
theorem ul_6_42 : Cond.selects RX9 yX9_at yX9_at ∈ UL := ul_in6 (List.mem_of_getElem? (i := 42) rfl) rfl
theorem ul_6_43 : Cond.code yX9_at cX9_at 4 (some .int) ∈ UL := ul_in6 (List.mem_of_getElem? (i := 43) rfl) rfl
theorem ul_6_44 : Cond.methodLink RL 109 yX9_ticks ∈ UL := ul_in6 (List.mem_of_getElem? (i := 44) rfl) rfl
theorem ul_6_45 : Cond.instanceMethod yX9_ticks ∈ UL := ul_in6 (List.mem_of_getElem? (i := 45) rfl) rfl
theorem ul_6_46 : Cond.selects RX9 yX9_ticks yX9_ticks ∈ UL := ul_in6 (List.mem_of_getElem? (i := 46) rfl) rfl
theorem ul_6_47 : Cond.code yX9_ticks cX9_ticks 4 (some .int) ∈ UL := ul_in6 (List.mem_of_getElem? (i := 47) rfl) rfl
theorem ul_6_48 : Cond.methodLink RL 113 yX9_quarrel ∈ UL := ul_in6 (List.mem_of_getElem? (i := 48) rfl) rfl
theorem ul_6_49 : Cond.instanceMethod yX9_quarrel ∈ UL := ul_in6 (List.mem_of_getElem? (i := 49) rfl) rfl
theorem ul_6_50 : Cond.selects RX9 yX9_quarrel yX9_quarrel ∈ UL := ul_in6 (List.mem_of_getElem? (i := 50) rfl) rfl
theorem ul_6_51 : Cond.code yX9_quarrel cX9_quarrel 4 (some .int) ∈ UL := ul_in6 (List.mem_of_getElem? (i := 51) rfl) rfl
theorem ul_6_52 : Cond.methodLink RL 117 yX9_wake ∈ UL := ul_in6 (List.mem_of_getElem? (i := 52) rfl) rfl
theorem ul_6_53 : Cond.instanceMethod yX9_wake ∈ UL := ul_in6 (List.mem_of_getElem? (i := 53) rfl) rfl
theorem ul_6_54 : Cond.selects RX9 yX9_wake yX9_wake ∈ UL := ul_in6 (List.mem_of_getElem? (i := 54) rfl) rfl
theorem ul_6_55 : Cond.code yX9_wake cX9_wake 5 (some .int) ∈ UL := ul_in6 (List.mem_of_getElem? (i := 55) rfl) rfl
theorem ul_6_56 : Cond.methodLink RX9 289 yX9_wakes ∈ UL := ul_in6 (List.mem_of_getElem? (i := 56) rfl) rfl
theorem ul_6_58 : Cond.instanceMethod yX9_wakes ∈ UL := ul_in6 (List.mem_of_getElem? (i := 58) rfl) rfl
theorem ul_6_59 : Cond.code yX9_wakes cX9_wakes 5 (some .int) ∈ UL := ul_in6 (List.mem_of_getElem? (i := 59) rfl) rfl
theorem ul_6_60 : Cond.methodLink RL 121 yX9_show ∈ UL := ul_in6 (List.mem_of_getElem? (i := 60) rfl) rfl
theorem ul_6_61 : Cond.instanceMethod yX9_show ∈ UL := ul_in6 (List.mem_of_getElem? (i := 61) rfl) rfl
theorem ul_6_62 : Cond.selects RX9 yX9_show yX9_show ∈ UL := ul_in6 (List.mem_of_getElem? (i := 62) rfl) rfl
theorem ul_6_63 : Cond.code yX9_show cX9_show 3 (some .int) ∈ UL := ul_in6 (List.mem_of_getElem? (i := 63) rfl) rfl
theorem ul_6_64 : Cond.methodLink RX9 298 yX9_shows ∈ UL := ul_in6 (List.mem_of_getElem? (i := 64) rfl) rfl
theorem ul_6_66 : Cond.instanceMethod yX9_shows ∈ UL := ul_in6 (List.mem_of_getElem? (i := 66) rfl) rfl
theorem ul_6_67 : Cond.code yX9_shows cX9_shows 7 (some .boolean) ∈ UL := ul_in6 (List.mem_of_getElem? (i := 67) rfl) rfl
theorem ul_6_68 : Cond.methodLink RX9 292 yX9_restore ∈ UL := ul_in6 (List.mem_of_getElem? (i := 68) rfl) rfl
theorem ul_6_70 : Cond.instanceMethod yX9_restore ∈ UL := ul_in6 (List.mem_of_getElem? (i := 70) rfl) rfl
theorem ul_6_71 : Cond.code yX9_restore cX9_restore 3 none ∈ UL := ul_in6 (List.mem_of_getElem? (i := 71) rfl) rfl
theorem ul_6_72 : Cond.methodLink RX9 295 yX9_bringsBar ∈ UL := ul_in6 (List.mem_of_getElem? (i := 72) rfl) rfl
theorem ul_6_74 : Cond.instanceMethod yX9_bringsBar ∈ UL := ul_in6 (List.mem_of_getElem? (i := 74) rfl) rfl
theorem ul_6_75 : Cond.code yX9_bringsBar cX9_bringsBar 6 (some .boolean) ∈ UL := ul_in6 (List.mem_of_getElem? (i := 75) rfl) rfl
theorem ul_6_76 : Cond.methodLink RL 125 yX9_habits ∈ UL := ul_in6 (List.mem_of_getElem? (i := 76) rfl) rfl
theorem ul_6_77 : Cond.instanceMethod yX9_habits ∈ UL := ul_in6 (List.mem_of_getElem? (i := 77) rfl) rfl
theorem ul_6_78 : Cond.selects RX9 yX9_habits yX9_habits ∈ UL := ul_in6 (List.mem_of_getElem? (i := 78) rfl) rfl
theorem ul_6_79 : Cond.code yX9_habits cX9_habits 7 (some .int) ∈ UL := ul_in6 (List.mem_of_getElem? (i := 79) rfl) rfl
theorem ul_6_80 : Cond.constantLong RX9 301 (Int64.ofInt (14)) ∈ UL := ul_in6 (List.mem_of_getElem? (i := 80) rfl) rfl
theorem ul_6_81 : Cond.methodLink RX9 303 yX9_daysOf ∈ UL := ul_in6 (List.mem_of_getElem? (i := 81) rfl) rfl
theorem ul_6_83 : Cond.instanceMethod yX9_daysOf ∈ UL := ul_in6 (List.mem_of_getElem? (i := 83) rfl) rfl
theorem ul_6_84 : Cond.code yX9_daysOf cX9_daysOf 10 (some .int) ∈ UL := ul_in6 (List.mem_of_getElem? (i := 84) rfl) rfl
theorem ul_6_85 : Cond.methodLink RL 129 yX9_keepHabit ∈ UL := ul_in6 (List.mem_of_getElem? (i := 85) rfl) rfl
theorem ul_6_86 : Cond.instanceMethod yX9_keepHabit ∈ UL := ul_in6 (List.mem_of_getElem? (i := 86) rfl) rfl
theorem ul_6_87 : Cond.selects RX9 yX9_keepHabit yX9_keepHabit ∈ UL := ul_in6 (List.mem_of_getElem? (i := 87) rfl) rfl
theorem ul_6_88 : Cond.code yX9_keepHabit cX9_keepHabit 2 (some .int) ∈ UL := ul_in6 (List.mem_of_getElem? (i := 88) rfl) rfl
theorem ul_6_89 : Cond.constantLong RX9 307 (Int64.ofInt (2399)) ∈ UL := ul_in6 (List.mem_of_getElem? (i := 89) rfl) rfl
theorem ul_6_90 : Cond.methodLink RL 133 yX9_forget ∈ UL := ul_in6 (List.mem_of_getElem? (i := 90) rfl) rfl
theorem ul_6_91 : Cond.instanceMethod yX9_forget ∈ UL := ul_in6 (List.mem_of_getElem? (i := 91) rfl) rfl
theorem ul_6_92 : Cond.selects RX9 yX9_forget yX9_forget ∈ UL := ul_in6 (List.mem_of_getElem? (i := 92) rfl) rfl
theorem ul_6_93 : Cond.code yX9_forget cX9_forget 6 (some .int) ∈ UL := ul_in6 (List.mem_of_getElem? (i := 93) rfl) rfl
theorem ul_6_94 : Cond.methodLink RL 137 yX9_cost ∈ UL := ul_in6 (List.mem_of_getElem? (i := 94) rfl) rfl
theorem ul_6_95 : Cond.instanceMethod yX9_cost ∈ UL := ul_in6 (List.mem_of_getElem? (i := 95) rfl) rfl
theorem ul_6_96 : Cond.selects RX9 yX9_cost yX9_cost ∈ UL := ul_in6 (List.mem_of_getElem? (i := 96) rfl) rfl
theorem ul_6_97 : Cond.code yX9_cost cX9_cost 4 (some .int) ∈ UL := ul_in6 (List.mem_of_getElem? (i := 97) rfl) rfl
theorem ul_6_98 : Cond.methodLink RL 141 yX9_why ∈ UL := ul_in6 (List.mem_of_getElem? (i := 98) rfl) rfl
theorem ul_6_99 : Cond.instanceMethod yX9_why ∈ UL := ul_in6 (List.mem_of_getElem? (i := 99) rfl) rfl
theorem ul_6_100 : Cond.selects RX9 yX9_why yX9_why ∈ UL := ul_in6 (List.mem_of_getElem? (i := 100) rfl) rfl
theorem ul_6_101 : Cond.code yX9_why cX9_why 2 (some .int) ∈ UL := ul_in6 (List.mem_of_getElem? (i := 101) rfl) rfl
theorem ul_6_102 : Cond.methodLink RL 145 yX9_count ∈ UL := ul_in6 (List.mem_of_getElem? (i := 102) rfl) rfl
theorem ul_6_103 : Cond.instanceMethod yX9_count ∈ UL := ul_in6 (List.mem_of_getElem? (i := 103) rfl) rfl
theorem ul_6_104 : Cond.selects RX9 yX9_count yX9_count ∈ UL := ul_in6 (List.mem_of_getElem? (i := 104) rfl) rfl
theorem ul_6_105 : Cond.code yX9_count cX9_count 2 (some .int) ∈ UL := ul_in6 (List.mem_of_getElem? (i := 105) rfl) rfl
theorem ul_6_106 : Cond.constantLong RL 41 (Int64.ofInt (4294967295)) ∈ UL := ul_in6 (List.mem_of_getElem? (i := 106) rfl) rfl
theorem us_X5_readItem : Cond.selects RX5 yX5_readItem yX5_readItem ∈ UL := ul_sel (y := yX5_readItem) (n := 7) (List.mem_of_getElem? (i := 0) rfl) rfl
theorem us_X5_figuresAt : Cond.selects RX5 yX5_figuresAt yX5_figuresAt ∈ UL := ul_sel (y := yX5_figuresAt) (n := 7) (List.mem_of_getElem? (i := 1) rfl) rfl
theorem us_X5_isFigure : Cond.selects RX5 yX5_isFigure yX5_isFigure ∈ UL := ul_sel (y := yX5_isFigure) (n := 7) (List.mem_of_getElem? (i := 2) rfl) rfl
theorem us_X5_valueAt : Cond.selects RX5 yX5_valueAt yX5_valueAt ∈ UL := ul_sel (y := yX5_valueAt) (n := 7) (List.mem_of_getElem? (i := 3) rfl) rfl
theorem us_X5_numbersFit : Cond.selects RX5 yX5_numbersFit yX5_numbersFit ∈ UL := ul_sel (y := yX5_numbersFit) (n := 7) (List.mem_of_getElem? (i := 4) rfl) rfl
theorem us_X5_letsByItem : Cond.selects RX5 yX5_letsByItem yX5_letsByItem ∈ UL := ul_sel (y := yX5_letsByItem) (n := 7) (List.mem_of_getElem? (i := 5) rfl) rfl
theorem us_X5_barsByItem : Cond.selects RX5 yX5_barsByItem yX5_barsByItem ∈ UL := ul_sel (y := yX5_barsByItem) (n := 7) (List.mem_of_getElem? (i := 6) rfl) rfl
theorem us_X7_priceWithSound : Cond.selects RX7 yX7_priceWithSound yX7_priceWithSound ∈ UL := ul_sel (y := yX7_priceWithSound) (n := 8) (List.mem_of_getElem? (i := 7) rfl) rfl
theorem us_X3_offerWithVerb : Cond.selects RX3 yX3_offerWithVerb yX3_offerWithVerb ∈ UL := ul_sel (y := yX3_offerWithVerb) (n := 16) (List.mem_of_getElem? (i := 8) rfl) rfl
theorem us_X3_offer : Cond.selects RX3 yX3_offer yX3_offer ∈ UL := ul_sel (y := yX3_offer) (n := 16) (List.mem_of_getElem? (i := 9) rfl) rfl
theorem us_X3_offerWithSort : Cond.selects RX3 yX3_offerWithSort yX3_offerWithSort ∈ UL := ul_sel (y := yX3_offerWithSort) (n := 16) (List.mem_of_getElem? (i := 10) rfl) rfl
theorem us_X3_thingsNamed : Cond.selects RX3 yX3_thingsNamed yX3_thingsNamed ∈ UL := ul_sel (y := yX3_thingsNamed) (n := 16) (List.mem_of_getElem? (i := 11) rfl) rfl
theorem us_X3_isFirstToDoSo : Cond.selects RX3 yX3_isFirstToDoSo yX3_isFirstToDoSo ∈ UL := ul_sel (y := yX3_isFirstToDoSo) (n := 16) (List.mem_of_getElem? (i := 12) rfl) rfl
theorem us_X3_statesBy : Cond.selects RX3 yX3_statesBy yX3_statesBy ∈ UL := ul_sel (y := yX3_statesBy) (n := 16) (List.mem_of_getElem? (i := 13) rfl) rfl
theorem us_X3_greatestWithOneAnswer : Cond.selects RX3 yX3_greatestWithOneAnswer yX3_greatestWithOneAnswer ∈ UL := ul_sel (y := yX3_greatestWithOneAnswer) (n := 16) (List.mem_of_getElem? (i := 14) rfl) rfl
theorem us_X3_wordAt : Cond.selects RX3 yX3_wordAt yX3_wordAt ∈ UL := ul_sel (y := yX3_wordAt) (n := 16) (List.mem_of_getElem? (i := 15) rfl) rfl
theorem us_X3_openWith : Cond.selects RX3 yX3_openWith yX3_openWith ∈ UL := ul_sel (y := yX3_openWith) (n := 16) (List.mem_of_getElem? (i := 16) rfl) rfl
theorem us_X8_mayTurnAll : Cond.selects RX8 yX8_mayTurnAll yX8_mayTurnAll ∈ UL := ul_sel (y := yX8_mayTurnAll) (n := 9) (List.mem_of_getElem? (i := 17) rfl) rfl
theorem us_X8_carryOut : Cond.selects RX8 yX8_carryOut yX8_carryOut ∈ UL := ul_sel (y := yX8_carryOut) (n := 9) (List.mem_of_getElem? (i := 18) rfl) rfl
theorem us_X1_dropOldest : Cond.selects RX1 yX1_dropOldest yX1_dropOldest ∈ UL := ul_sel (y := yX1_dropOldest) (n := 8) (List.mem_of_getElem? (i := 19) rfl) rfl
theorem us_X1_moveEntry : Cond.selects RX1 yX1_moveEntry yX1_moveEntry ∈ UL := ul_sel (y := yX1_moveEntry) (n := 8) (List.mem_of_getElem? (i := 20) rfl) rfl
theorem us_X6_putInRow : Cond.selects RX6 yX6_putInRow yX6_putInRow ∈ UL := ul_sel (y := yX6_putInRow) (n := 10) (List.mem_of_getElem? (i := 21) rfl) rfl
theorem us_X8_takeBack : Cond.selects RX8 yX8_takeBack yX8_takeBack ∈ UL := ul_sel (y := yX8_takeBack) (n := 9) (List.mem_of_getElem? (i := 22) rfl) rfl
theorem us_X6_allWokenBy : Cond.selects RX6 yX6_allWokenBy yX6_allWokenBy ∈ UL := ul_sel (y := yX6_allWokenBy) (n := 10) (List.mem_of_getElem? (i := 23) rfl) rfl
theorem us_X6_wokenAtOnceBy : Cond.selects RX6 yX6_wokenAtOnceBy yX6_wokenAtOnceBy ∈ UL := ul_sel (y := yX6_wokenAtOnceBy) (n := 10) (List.mem_of_getElem? (i := 24) rfl) rfl
theorem us_X2_reach : Cond.selects RX2 yX2_reach yX2_reach ∈ UL := ul_sel (y := yX2_reach) (n := 8) (List.mem_of_getElem? (i := 25) rfl) rfl
theorem us_X2_comesToBarredFrom : Cond.selects RX2 yX2_comesToBarredFrom yX2_comesToBarredFrom ∈ UL := ul_sel (y := yX2_comesToBarredFrom) (n := 8) (List.mem_of_getElem? (i := 26) rfl) rfl
theorem us_X9_isThing : Cond.selects RX9 yX9_isThing yX9_isThing ∈ UL := ul_sel (y := yX9_isThing) (n := 52) (List.mem_of_getElem? (i := 27) rfl) rfl
theorem us_X9_readAll : Cond.selects RX9 yX9_readAll yX9_readAll ∈ UL := ul_sel (y := yX9_readAll) (n := 52) (List.mem_of_getElem? (i := 28) rfl) rfl
theorem us_X9_item : Cond.selects RX9 yX9_item yX9_item ∈ UL := ul_sel (y := yX9_item) (n := 52) (List.mem_of_getElem? (i := 29) rfl) rfl
theorem us_X9_figures : Cond.selects RX9 yX9_figures yX9_figures ∈ UL := ul_sel (y := yX9_figures) (n := 52) (List.mem_of_getElem? (i := 30) rfl) rfl
theorem us_X9_mayTurn : Cond.selects RX9 yX9_mayTurn yX9_mayTurn ∈ UL := ul_sel (y := yX9_mayTurn) (n := 52) (List.mem_of_getElem? (i := 31) rfl) rfl
theorem us_X9_bars : Cond.selects RX9 yX9_bars yX9_bars ∈ UL := ul_sel (y := yX9_bars) (n := 52) (List.mem_of_getElem? (i := 32) rfl) rfl
theorem us_X9_stateOf : Cond.selects RX9 yX9_stateOf yX9_stateOf ∈ UL := ul_sel (y := yX9_stateOf) (n := 52) (List.mem_of_getElem? (i := 33) rfl) rfl
theorem us_X9_layReadings : Cond.selects RX9 yX9_layReadings yX9_layReadings ∈ UL := ul_sel (y := yX9_layReadings) (n := 52) (List.mem_of_getElem? (i := 34) rfl) rfl
theorem us_X9_take : Cond.selects RX9 yX9_take yX9_take ∈ UL := ul_sel (y := yX9_take) (n := 52) (List.mem_of_getElem? (i := 35) rfl) rfl
theorem us_X9_priceOf : Cond.selects RX9 yX9_priceOf yX9_priceOf ∈ UL := ul_sel (y := yX9_priceOf) (n := 52) (List.mem_of_getElem? (i := 36) rfl) rfl
theorem us_X9_addWord : Cond.selects RX9 yX9_addWord yX9_addWord ∈ UL := ul_sel (y := yX9_addWord) (n := 52) (List.mem_of_getElem? (i := 37) rfl) rfl
theorem us_X9_meaning : Cond.selects RX9 yX9_meaning yX9_meaning ∈ UL := ul_sel (y := yX9_meaning) (n := 52) (List.mem_of_getElem? (i := 38) rfl) rfl
theorem us_X9_unlikeMany : Cond.selects RX9 yX9_unlikeMany yX9_unlikeMany ∈ UL := ul_sel (y := yX9_unlikeMany) (n := 52) (List.mem_of_getElem? (i := 39) rfl) rfl
theorem us_X9_outcome : Cond.selects RX9 yX9_outcome yX9_outcome ∈ UL := ul_sel (y := yX9_outcome) (n := 52) (List.mem_of_getElem? (i := 40) rfl) rfl
theorem us_X9_layBars : Cond.selects RX9 yX9_layBars yX9_layBars ∈ UL := ul_sel (y := yX9_layBars) (n := 52) (List.mem_of_getElem? (i := 41) rfl) rfl
theorem us_X9_newBar : Cond.selects RX9 yX9_newBar yX9_newBar ∈ UL := ul_sel (y := yX9_newBar) (n := 52) (List.mem_of_getElem? (i := 42) rfl) rfl
theorem us_X9_log : Cond.selects RX9 yX9_log yX9_log ∈ UL := ul_sel (y := yX9_log) (n := 52) (List.mem_of_getElem? (i := 43) rfl) rfl
theorem us_X9_wakeBy : Cond.selects RX9 yX9_wakeBy yX9_wakeBy ∈ UL := ul_sel (y := yX9_wakeBy) (n := 52) (List.mem_of_getElem? (i := 44) rfl) rfl
theorem us_X9_fire : Cond.selects RX9 yX9_fire yX9_fire ∈ UL := ul_sel (y := yX9_fire) (n := 52) (List.mem_of_getElem? (i := 45) rfl) rfl
theorem us_X9_isState : Cond.selects RX9 yX9_isState yX9_isState ∈ UL := ul_sel (y := yX9_isState) (n := 52) (List.mem_of_getElem? (i := 46) rfl) rfl
theorem us_X9_stand : Cond.selects RX9 yX9_stand yX9_stand ∈ UL := ul_sel (y := yX9_stand) (n := 52) (List.mem_of_getElem? (i := 47) rfl) rfl
theorem us_X9_wakes : Cond.selects RX9 yX9_wakes yX9_wakes ∈ UL := ul_sel (y := yX9_wakes) (n := 52) (List.mem_of_getElem? (i := 48) rfl) rfl
theorem us_X9_shows : Cond.selects RX9 yX9_shows yX9_shows ∈ UL := ul_sel (y := yX9_shows) (n := 52) (List.mem_of_getElem? (i := 49) rfl) rfl
theorem us_X9_restore : Cond.selects RX9 yX9_restore yX9_restore ∈ UL := ul_sel (y := yX9_restore) (n := 52) (List.mem_of_getElem? (i := 50) rfl) rfl
theorem us_X9_bringsBar : Cond.selects RX9 yX9_bringsBar yX9_bringsBar ∈ UL := ul_sel (y := yX9_bringsBar) (n := 52) (List.mem_of_getElem? (i := 51) rfl) rfl
theorem us_X9_daysOf : Cond.selects RX9 yX9_daysOf yX9_daysOf ∈ UL := ul_sel (y := yX9_daysOf) (n := 52) (List.mem_of_getElem? (i := 52) rfl) rfl
end
section
/-! the fixed world: classes, cells, fields -/
abbrev ev_cl : List vw_C := [(RX0, TX0, 5), (RX1, TX1, 8), (RX2, TX2, 8), (RX3, TX3, 16), (RX4, TX4, 10), (RX5, TX5, 7), (RX6, TX6, 10), (RX7, TX7, 8), (RX8, TX8, 9), (RX9, TX9, 52)]
def ev_lay : List (Nat ⊕ (Bool × Nat)) := [.inl 8, .inl 4, .inl 5, .inl 7, .inl 3, .inl 0, .inl 6, .inl 2, .inl 1, .inr (false, 10), .inr (false, 10), .inr (false, 10), .inr (false, 10), .inr (false, 10), .inr (false, 6), .inr (false, 5), .inr (false, 200), .inr (false, 5), .inr (false, 40), .inr (false, 200), .inr (false, 16), .inr (false, 16), .inr (false, 16), .inr (false, 64), .inr (false, 256), .inr (false, 8), .inr (false, 12), .inr (false, 12), .inr (false, 12), .inr (false, 12), .inr (false, 12), .inr (true, 12), .inr (false, 9), .inr (false, 9), .inr (false, 9), .inr (false, 9), .inr (false, 200), .inr (false, 200), .inr (true, 200), .inr (false, 8), .inr (false, 8), .inr (false, 8), .inr (false, 8), .inr (false, 256), .inr (false, 2048), .inr (false, 2048), .inr (false, 2048), .inr (false, 256), .inr (false, 60), .inr (false, 60), .inr (false, 60), .inr (false, 60), .inr (false, 60), .inr (false, 960), .inr (false, 3), .inl 9, .inr (false, 10), .inr (false, 10), .inr (false, 10), .inr (false, 10), .inr (false, 10), .inr (false, 10), .inr (false, 6), .inr (false, 256), .inr (false, 16), .inr (false, 16), .inr (false, 16), .inr (false, 64), .inr (false, 3), .inr (false, 200), .inr (false, 2), .inr (false, 480), .inr (false, 12), .inr (false, 36), .inr (false, 12), .inr (true, 12), .inr (false, 200), .inr (false, 200), .inr (true, 200), .inr (false, 40), .inr (false, 300), .inr (false, 5), .inr (true, 40), .inr (false, 12), .inr (false, 8), .inr (false, 9), .inr (false, 400), .inr (false, 8), .inr (false, 8), .inr (false, 80)]
def ev_fkd : List (List Nat) := [[2, 2, 2, 0, 0], [2, 2, 2, 2, 2, 2, 0, 0], [2, 2, 2, 2, 2, 2, 2, 0], [2, 2, 2, 2, 2, 2, 2, 2, 2, 2, 2, 2, 1, 0, 0, 0], [2, 2, 2, 2, 2, 2, 2, 0, 0, 0], [2, 2, 2, 2, 2, 0, 0], [2, 2, 2, 2, 2, 2, 2, 0, 0, 0], [2, 2, 2, 2, 2, 2, 0, 0], [2, 2, 2, 2, 2, 2, 2, 2, 2], [0, 2, 2, 2, 2, 2, 2, 2, 0, 2, 0, 2, 2, 2, 2, 2, 0, 2, 2, 2, 1, 0, 1, 0, 2, 2, 2, 2, 0, 0, 2, 2, 2, 0, 2, 0, 0, 2, 0, 0, 2, 2, 0, 2, 0, 2, 2, 0, 2, 2, 2, 2]]
def ev_tgt : List (List Nat) := [[1, 2, 3, 4, 5, 6, 7, 8, 54], [9, 10, 11, 12, 13, 14, 15, 0, 0, 0], [1, 16, 17, 18, 19, 0, 0], [20, 21, 22, 23, 24, 25, 0, 0], [1, 3, 26, 27, 28, 29, 30, 31, 32, 33, 34, 35, 0, 0, 0, 0], [36, 37, 38, 0, 0], [1, 2, 39, 40, 41, 42, 43, 0, 0, 0], [1, 2, 6, 44, 45, 46, 47, 0], [48, 49, 50, 51, 52, 53, 0, 0], [], [], [], [], [], [], [], [], [], [], [], [], [], [], [], [], [], [], [], [], [], [], [], [], [], [], [], [], [], [], [], [], [], [], [], [], [], [], [], [], [], [], [], [], [], [], [0, 56, 57, 58, 59, 60, 61, 62, 0, 63, 0, 64, 65, 66, 67, 68, 0, 69, 70, 71, 0, 0, 0, 0, 72, 73, 74, 75, 0, 0, 76, 77, 78, 0, 79, 0, 0, 80, 0, 0, 81, 82, 0, 83, 0, 84, 85, 0, 86, 87, 88, 89], [], [], [], [], [], [], [], [], [], [], [], [], [], [], [], [], [], [], [], [], [], [], [], [], [], [], [], [], [], [], [], [], [], []]
def ev_nl : List Cond := [Cond.methodLinkNest RX8 43 yX0_init "HeededWishes", Cond.methodLinkNest RX8 68 yX1_init "HeededWishes", Cond.methodLinkNest RX5 70 yX8_within "HeededWishes", Cond.methodLinkNest RX5 89 yX8_stateIn "HeededWishes", Cond.methodLinkNest RX4 57 yX8_isIn "HeededWishes", Cond.fieldLinkNest RX4 47 "HeededWishes" "TOP_OF_SORT" "[I" "HeededWishes", Cond.methodLinkNest RX3 123 yX8_withAll "HeededWishes", Cond.methodLinkNest RX4 61 yX8_stateIn "HeededWishes", Cond.methodLinkNest RX4 53 yX8_with "HeededWishes", Cond.methodLinkNest RX6 61 yX8_with "HeededWishes", Cond.methodLinkNest RX6 82 yX8_isIn "HeededWishes", Cond.methodLinkNest RX6 88 yX8_stateIn "HeededWishes", Cond.methodLinkNest RX2 83 yX8_isIn "HeededWishes"]
theorem nl_0 : Cond.methodLinkNest RX8 43 yX0_init "HeededWishes" ∈ ev_nl := List.mem_of_getElem? (i := 0) rfl
theorem nl_1 : Cond.methodLinkNest RX8 68 yX1_init "HeededWishes" ∈ ev_nl := List.mem_of_getElem? (i := 1) rfl
theorem nl_2 : Cond.methodLinkNest RX5 70 yX8_within "HeededWishes" ∈ ev_nl := List.mem_of_getElem? (i := 2) rfl
theorem nl_3 : Cond.methodLinkNest RX5 89 yX8_stateIn "HeededWishes" ∈ ev_nl := List.mem_of_getElem? (i := 3) rfl
theorem nl_4 : Cond.methodLinkNest RX4 57 yX8_isIn "HeededWishes" ∈ ev_nl := List.mem_of_getElem? (i := 4) rfl
theorem nl_5 : Cond.fieldLinkNest RX4 47 "HeededWishes" "TOP_OF_SORT" "[I" "HeededWishes" ∈ ev_nl := List.mem_of_getElem? (i := 5) rfl
theorem nl_6 : Cond.methodLinkNest RX3 123 yX8_withAll "HeededWishes" ∈ ev_nl := List.mem_of_getElem? (i := 6) rfl
theorem nl_7 : Cond.methodLinkNest RX4 61 yX8_stateIn "HeededWishes" ∈ ev_nl := List.mem_of_getElem? (i := 7) rfl
theorem nl_8 : Cond.methodLinkNest RX4 53 yX8_with "HeededWishes" ∈ ev_nl := List.mem_of_getElem? (i := 8) rfl
theorem nl_9 : Cond.methodLinkNest RX6 61 yX8_with "HeededWishes" ∈ ev_nl := List.mem_of_getElem? (i := 9) rfl
theorem nl_10 : Cond.methodLinkNest RX6 82 yX8_isIn "HeededWishes" ∈ ev_nl := List.mem_of_getElem? (i := 10) rfl
theorem nl_11 : Cond.methodLinkNest RX6 88 yX8_stateIn "HeededWishes" ∈ ev_nl := List.mem_of_getElem? (i := 11) rfl
theorem nl_12 : Cond.methodLinkNest RX2 83 yX8_isIn "HeededWishes" ∈ ev_nl := List.mem_of_getElem? (i := 12) rfl
theorem ev_nlin : ∀ w ∈ ev_nl, w ∈ lw_tbl := by
  intro w hw
  have e : ev_nl = [209, 307, 473, 510, 581, 589, 619, 686, 711, 730, 801, 824, 825].filterMap (fun i => tables_1[i]?) := by decide +kernel
  rw [e] at hw
  obtain ⟨i, -, hi⟩ := List.mem_filterMap.mp hw
  exact List.mem_append_right _ (List.mem_of_getElem? hi)
theorem ev_in0 : ∀ w ∈ u_ws RX0 TX0 5, w ∈ UL := by
  intro w hw
  have g : (u_ws RX0 TX0 5).all goodWord = true := by decide +kernel
  have e : u_ws RX0 TX0 5 = [223, 225, 227, 229, 231].filterMap (fun i => tables_1[i]?) := by decide +kernel
  have g1 := List.all_eq_true.mp g w hw
  rw [e] at hw
  obtain ⟨i, -, hi⟩ := List.mem_filterMap.mp hw
  exact ul_t (List.mem_of_getElem? hi) g1
theorem ev_in1 : ∀ w ∈ u_ws RX1 TX1 8, w ∈ UL := by
  intro w hw
  have g : (u_ws RX1 TX1 8).all goodWord = true := by decide +kernel
  have e : u_ws RX1 TX1 8 = [321, 323, 325, 327, 329, 331, 333, 335].filterMap (fun i => tables_1[i]?) := by decide +kernel
  have g1 := List.all_eq_true.mp g w hw
  rw [e] at hw
  obtain ⟨i, -, hi⟩ := List.mem_filterMap.mp hw
  exact ul_t (List.mem_of_getElem? hi) g1
theorem ev_in2 : ∀ w ∈ u_ws RX2 TX2 8, w ∈ UL := by
  intro w hw
  have g : (u_ws RX2 TX2 8).all goodWord = true := by decide +kernel
  have e : u_ws RX2 TX2 8 = [288, 290, 292, 294, 296, 298, 300, 302].filterMap (fun i => tables_1[i]?) := by decide +kernel
  have g1 := List.all_eq_true.mp g w hw
  rw [e] at hw
  obtain ⟨i, -, hi⟩ := List.mem_filterMap.mp hw
  exact ul_t (List.mem_of_getElem? hi) g1
theorem ev_in3 : ∀ w ∈ u_ws RX3 TX3 16, w ∈ UL := by
  intro w hw
  have g : (u_ws RX3 TX3 16).all goodWord = true := by decide +kernel
  have e : u_ws RX3 TX3 16 = [173, 175, 177, 179, 181, 183, 185, 187, 189, 191, 193, 195, 197, 199, 201, 203].filterMap (fun i => tables_1[i]?) := by decide +kernel
  have g1 := List.all_eq_true.mp g w hw
  rw [e] at hw
  obtain ⟨i, -, hi⟩ := List.mem_filterMap.mp hw
  exact ul_t (List.mem_of_getElem? hi) g1
theorem ev_in4 : ∀ w ∈ u_ws RX4 TX4 10, w ∈ UL := by
  intro w hw
  have g : (u_ws RX4 TX4 10).all goodWord = true := by decide +kernel
  have e : u_ws RX4 TX4 10 = [56, 58, 60, 62, 64, 66, 68, 70, 72, 74].filterMap (fun i => tables_1[i]?) := by decide +kernel
  have g1 := List.all_eq_true.mp g w hw
  rw [e] at hw
  obtain ⟨i, -, hi⟩ := List.mem_filterMap.mp hw
  exact ul_t (List.mem_of_getElem? hi) g1
theorem ev_in5 : ∀ w ∈ u_ws RX5 TX5 7, w ∈ UL := by
  intro w hw
  have g : (u_ws RX5 TX5 7).all goodWord = true := by decide +kernel
  have e : u_ws RX5 TX5 7 = [94, 96, 98, 100, 102, 104, 106].filterMap (fun i => tables_1[i]?) := by decide +kernel
  have g1 := List.all_eq_true.mp g w hw
  rw [e] at hw
  obtain ⟨i, -, hi⟩ := List.mem_filterMap.mp hw
  exact ul_t (List.mem_of_getElem? hi) g1
theorem ev_in6 : ∀ w ∈ u_ws RX6 TX6 10, w ∈ UL := by
  intro w hw
  have g : (u_ws RX6 TX6 10).all goodWord = true := by decide +kernel
  have e : u_ws RX6 TX6 10 = [253, 255, 257, 259, 261, 263, 265, 267, 269, 271].filterMap (fun i => tables_1[i]?) := by decide +kernel
  have g1 := List.all_eq_true.mp g w hw
  rw [e] at hw
  obtain ⟨i, -, hi⟩ := List.mem_filterMap.mp hw
  exact ul_t (List.mem_of_getElem? hi) g1
theorem ev_in7 : ∀ w ∈ u_ws RX7 TX7 8, w ∈ UL := by
  intro w hw
  have g : (u_ws RX7 TX7 8).all goodWord = true := by decide +kernel
  have e : u_ws RX7 TX7 8 = [128, 130, 132, 134, 136, 138, 140, 142].filterMap (fun i => tables_1[i]?) := by decide +kernel
  have g1 := List.all_eq_true.mp g w hw
  rw [e] at hw
  obtain ⟨i, -, hi⟩ := List.mem_filterMap.mp hw
  exact ul_t (List.mem_of_getElem? hi) g1
theorem ev_in8 : ∀ w ∈ u_ws RX8 TX8 9, w ∈ UL := by
  intro w hw
  have g : (u_ws RX8 TX8 9).all goodWord = true := by decide +kernel
  have e : u_ws RX8 TX8 9 = [347, 349, 351, 353, 355, 357, 359, 361, 363].filterMap (fun i => tables_1[i]?) := by decide +kernel
  have g1 := List.all_eq_true.mp g w hw
  rw [e] at hw
  obtain ⟨i, -, hi⟩ := List.mem_filterMap.mp hw
  exact ul_t (List.mem_of_getElem? hi) g1
theorem ev_in9 : ∀ w ∈ u_ws RX9 TX9 52, w ∈ UL := by
  intro w hw
  have g : (u_ws RX9 TX9 52).all goodWord = true := by decide +kernel
  have e : u_ws RX9 TX9 52 = [940, 942, 944, 946, 948, 950, 952, 954, 956, 958, 960, 962, 964, 966, 968, 970, 972, 974, 976, 978, 980, 982, 984, 986, 988, 990, 992, 994, 996, 998, 1000, 1002, 1004, 1006, 1008, 1010, 1012, 1014, 1016, 1018, 1020, 1022, 1024, 1026, 1028, 1030, 1032, 1034, 1036, 1038, 1040, 1042].filterMap (fun i => tables_1[i]?) := by decide +kernel
  have g1 := List.all_eq_true.mp g w hw
  rw [e] at hw
  obtain ⟨i, -, hi⟩ := List.mem_filterMap.mp hw
  exact ul_t (List.mem_of_getElem? hi) g1
end
section
/-! A logic over the machine for a fixed world: ints are whole numbers in their range, cells have numbers, every cell of the class and of the reference is in the world. -/
abbrev AV : Type := Int ⊕ (Int ⊕ Nat)
abbrev vI (x : Int) : AV := .inl x
abbrev vL (x : Int) : AV := .inr (.inl x)
abbrev vR (k : Nat) : AV := .inr (.inr k)
def iR (x : Int) : Prop := -2147483648 ≤ x ∧ x ≤ 2147483647
def lR (x : Int) : Prop := -9223372036854775808 ≤ x ∧ x ≤ 9223372036854775807
def okv : AV → Prop
  | .inl x => iR x
  | .inr (.inl x) => lR x
  | .inr (.inr _) => True
def mv (ad : Nat → Nat) : AV → Value
  | .inl x => .int (Int32.ofInt x)
  | .inr (.inl x) => .long (Int64.ofInt x)
  | .inr (.inr k) => .ref (ad k)
abbrev HP : Type := Nat → Int → Int
def sth (h : HP) (q : Nat) (i v : Int) : HP := fun q' => if q' = q then (fun j => if j = i then v else h q j) else h q'
def okh (h : HP) : Prop := ∀ q i, iR (h q i)
theorem okh_st {h : HP} {q : Nat} {i v : Int} (hh : okh h) (hv : iR v) : okh (sth h q i v) := by
  intro q' j
  unfold sth
  by_cases e : q' = q
  · rw [if_pos e]
    by_cases e2 : j = i
    · simpa [e2] using hv
    · simpa [e2] using hh q j
  · rw [if_neg e]
    exact hh _ _
-- numbers
theorem i_toInt {x : Int} (h : iR x) : (Int32.ofInt x).toInt = x := by
  rw [Int32.toInt_ofInt]
  exact Int.bmod_eq_of_le (by have := h.1; simp; omega) (by have := h.2; simp; omega)
theorem l_toInt {x : Int} (h : lR x) : (Int64.ofInt x).toInt = x := by
  rw [Int64.toInt_ofInt]
  exact Int.bmod_eq_of_le (by have := h.1; simp; omega) (by have := h.2; simp; omega)
theorem i_rng (x : Int32) : iR x.toInt := by
  have h1 := Int32.le_toInt x
  have h2 := Int32.toInt_lt x
  exact ⟨by omega, by omega⟩
theorem l_rng (x : Int64) : lR x.toInt := by
  have h1 := Int64.le_toInt x
  have h2 := Int64.toInt_lt x
  exact ⟨by omega, by omega⟩
theorem i_lt {a b : Int} (ha : iR a) (hb : iR b) : Int32.ofInt a < Int32.ofInt b ↔ a < b := by rw [Int32.lt_iff_toInt_lt, i_toInt ha, i_toInt hb]
theorem i_le {a b : Int} (ha : iR a) (hb : iR b) : Int32.ofInt a ≤ Int32.ofInt b ↔ a ≤ b := by rw [Int32.le_iff_toInt_le, i_toInt ha, i_toInt hb]
theorem i_eq {a b : Int} (ha : iR a) (hb : iR b) : Int32.ofInt a = Int32.ofInt b ↔ a = b := by
  constructor
  · intro h
    have := congrArg Int32.toInt h
    rwa [i_toInt ha, i_toInt hb] at this
  · intro h; rw [h]
theorem i_0 : (0 : Int32) = Int32.ofInt 0 := by decide
theorem iR_0 : iR 0 := ⟨by decide, by decide⟩
theorem i_nat {n : Nat} (h : n < 2 ^ 31) : Int32.ofInt (n : Int) = nI n := by
  apply Int32.toInt_inj.mp
  rw [i_toInt ⟨by omega, by omega⟩, nI_toInt h]
theorem l_ext {x y : Int64} (h : x.toInt = y.toInt) : x = y := Int64.toInt_inj.mp h
theorem i_ext {x y : Int32} (h : x.toInt = y.toInt) : x = y := Int32.toInt_inj.mp h
theorem i_of (x : Int32) : Int32.ofInt x.toInt = x := i_ext (i_toInt (i_rng x))
theorem l_of (x : Int64) : Int64.ofInt x.toInt = x := l_ext (l_toInt (l_rng x))
theorem i_add (a b : Int) : Int32.ofInt a + Int32.ofInt b = Int32.ofInt (a + b) := by rw [Int32.ofInt_add]
theorem i_sub (a b : Int) : Int32.ofInt a - Int32.ofInt b = Int32.ofInt (a - b) := by rw [Int32.ofInt_sub]
theorem i_mul (a b : Int) : Int32.ofInt a * Int32.ofInt b = Int32.ofInt (a * b) := by rw [Int32.ofInt_mul]
theorem l_add (a b : Int) : Int64.ofInt a + Int64.ofInt b = Int64.ofInt (a + b) := by rw [Int64.ofInt_add]
theorem l_sub (a b : Int) : Int64.ofInt a - Int64.ofInt b = Int64.ofInt (a - b) := by rw [Int64.ofInt_sub]
theorem i_nn {a : Int} (h0 : 0 ≤ a) (h : iR a) : ∃ n : Nat, n < 2 ^ 31 ∧ a = (n : Int) := ⟨a.toNat, by have := h.2; omega, by omega⟩
theorem i_div {a b : Int} (h0 : 0 ≤ a) (ha : iR a) (h1 : 0 < b) (hb : iR b) : Int32.ofInt a / Int32.ofInt b = Int32.ofInt (a / b) := by
  obtain ⟨n, hn, rfl⟩ := i_nn h0 ha
  obtain ⟨d, hd, rfl⟩ := i_nn (Int.le_of_lt h1) hb
  have hd0 : 0 < d := by omega
  rw [i_nat hn, i_nat hd, pk_div hn hd0 hd, ← Int.natCast_ediv, i_nat (Nat.lt_of_le_of_lt (Nat.div_le_self n d) hn)]
theorem i_rem {a b : Int} (h0 : 0 ≤ a) (ha : iR a) (h1 : 0 < b) (hb : iR b) : Int32.ofInt a - Int32.ofInt a / Int32.ofInt b * Int32.ofInt b = Int32.ofInt (a % b) := by
  obtain ⟨n, hn, rfl⟩ := i_nn h0 ha
  obtain ⟨d, hd, rfl⟩ := i_nn (Int.le_of_lt h1) hb
  have hd0 : 0 < d := by omega
  rw [i_nat hn, i_nat hd, pk_rem hn hd0 hd, ← Int.natCast_emod, i_nat (Nat.lt_of_le_of_lt (Nat.mod_le n d) hn)]
theorem i_dR {a b : Int} (h0 : 0 ≤ a) (ha : iR a) (h1 : 0 < b) : iR (a / b) := by
  have h2 : 0 ≤ a / b := Int.ediv_nonneg h0 (Int.le_of_lt h1)
  have h3 : a / b ≤ a := Int.ediv_le_self b h0
  have := ha.2
  exact ⟨by omega, by omega⟩
theorem i_mR {a b : Int} (h1 : 0 < b) (hb : iR b) : iR (a % b) := by
  have h2 := Int.emod_nonneg a (show b ≠ 0 by omega)
  have h3 := Int.emod_lt_of_pos a h1
  have := hb.2
  exact ⟨by omega, by omega⟩
def iand (a b : Int) : Int := (Int32.ofInt a &&& Int32.ofInt b).toInt
def ior (a b : Int) : Int := (Int32.ofInt a ||| Int32.ofInt b).toInt
def ixor (a b : Int) : Int := (Int32.ofInt a ^^^ Int32.ofInt b).toInt
def ishl (a b : Int) : Int := (Int32.ofInt a <<< (Int32.ofInt b &&& 31)).toInt
def ishr (a b : Int) : Int := (Int32.ofInt a >>> (Int32.ofInt b &&& 31)).toInt
def iushr (a b : Int) : Int := ((Int32.ofInt a).toUInt32 >>> ((Int32.ofInt b).toUInt32 &&& Int32.toUInt32 31)).toInt32.toInt
def jand (a b : Int) : Int := (Int64.ofInt a &&& Int64.ofInt b).toInt
def jor (a b : Int) : Int := (Int64.ofInt a ||| Int64.ofInt b).toInt
def jxor (a b : Int) : Int := (Int64.ofInt a ^^^ Int64.ofInt b).toInt
def jshl (a b : Int) : Int := (Int64.ofInt a <<< ((Int32.ofInt b).toInt64 &&& 63)).toInt
def jshr (a b : Int) : Int := (Int64.ofInt a >>> ((Int32.ofInt b).toInt64 &&& 63)).toInt
def jushr (a b : Int) : Int := ((Int64.ofInt a).toUInt64 >>> ((Int32.ofInt b).toInt64.toUInt64 &&& Int64.toUInt64 63)).toInt64.toInt
def j2i (a : Int) : Int := (Int64.ofInt a).toInt32.toInt
theorem i_i2l {x : Int} (h : iR x) : (Int32.ofInt x).toInt64 = Int64.ofInt x := by
  apply l_ext
  rw [Int32.toInt_toInt64, i_toInt h, l_toInt ⟨by have := h.1; omega, by have := h.2; omega⟩]
theorem iR_lR {x : Int} (h : iR x) : lR x := ⟨by have := h.1; omega, by have := h.2; omega⟩
-- the world
abbrev WD : Type := (Nat → Nat) × va_G × ClassId × ClassId × Nat × (Nat → Int32)
abbrev MI : Type := String × ByteArray × Nat × Option FieldType × Nat × Nat
def ly (q : Nat) : Option (Nat ⊕ (Bool × Nat)) := ev_lay[q]?
def ev_fs (ad : Nat → Nat) (f : Int → Int) (ks ts : List Nat) : List Value := (List.range ks.length).map (fun j => if ks.getD j 0 = 2 then .ref (ad (ts.getD j 0)) else .int (Int32.ofInt (f (j : Int))))
def cE (w : WD) (h : HP) (q : Nat) : va_E := match ly q with
  | some (.inl ci) => .inr (ci, ev_fs w.1 (h q) (ev_fkd.getD ci []) (ev_tgt.getD q []))
  | some (.inr (b, n)) => .inl (if b then w.2.2.2.1 else w.2.2.1, n, .inl (fun j => Int32.ofInt (h q (j : Int))))
  | none => .inr (0, [])
def wld (w : WD) (h : HP) : va_W := (List.range 90).map (fun q => (w.1 q, cE w h q))
def ev_ty (w : WD) : List (ClassId × FieldType) := [(w.2.2.1, .int), (w.2.2.2.1, .boolean)]
theorem wld_at {w : WD} {h : HP} {q : Nat} (hq : q < 90) : (wld w h)[q]? = some (w.1 q, cE w h q) := by
  unfold wld
  rw [List.getElem?_map, List.getElem?_range hq]
  rfl
theorem wld_ge {w : WD} {h : HP} {q : Nat} (hq : ¬ q < 90) : (wld w h)[q]? = none := by
  unfold wld
  rw [List.getElem?_eq_none]
  simp; omega
theorem wld_in {w : WD} {h : HP} {k : Nat} {x : Nat × va_E} (hk : (wld w h)[k]? = some x) : k < 90 ∧ x = (w.1 k, cE w h k) := by
  by_cases hq : k < 90
  · rw [wld_at hq] at hk
    exact ⟨hq, (Option.some.inj hk).symm⟩
  · rw [wld_ge hq] at hk
    cases hk
theorem ly_lt {q : Nat} {x : Nat ⊕ (Bool × Nat)} (h : ly q = some x) : q < 90 := (List.getElem?_eq_some_iff.mp h).1
theorem wld_set {w : WD} {h h' : HP} {q : Nat} (hq : q < 90) (hh : ∀ j, j ≠ q → h' j = h j) : wld w h' = (wld w h).set q (w.1 q, cE w h' q) := by
  apply List.ext_getElem?
  intro j
  by_cases hj : j < 90
  · rw [wld_at hj, List.getElem?_set]
    by_cases e : q = j
    · subst e
      have hl : q < (wld w h).length := by simp [wld]; exact hq
      simp [hl]
    · rw [if_neg e, wld_at hj]
      have : cE w h' j = cE w h j := by unfold cE; rw [hh j (fun x => e x.symm)]
      rw [this]
  · rw [wld_ge hj, List.getElem?_set]
    by_cases e : q = j
    · omega
    · rw [if_neg e, wld_ge hj]
theorem wld_D {w : WD} {h h' : HP} {A : Nat → Prop} (hD : va_D A (wld w h)) : va_D A (wld w h') := by
  refine ⟨fun i j p q h1 h2 h3 => ?_, fun k q h1 => ?_⟩
  · obtain ⟨a1, rfl⟩ := wld_in h1
    obtain ⟨a2, rfl⟩ := wld_in h2
    exact hD.1 i j _ _ (wld_at a1) (wld_at a2) h3
  · obtain ⟨a1, rfl⟩ := wld_in h1
    exact hD.2 k (w.1 k, cE w h k) (wld_at a1)
theorem cE_obj {w : WD} {h : HP} {q ci : Nat} (hl : ly q = some (.inl ci)) : cE w h q = .inr (ci, ev_fs w.1 (h q) (ev_fkd.getD ci []) (ev_tgt.getD q [])) := by unfold cE; rw [hl]
theorem cE_arr {w : WD} {h : HP} {q n : Nat} {b : Bool} (hl : ly q = some (.inr (b, n))) : cE w h q = .inl (if b then w.2.2.2.1 else w.2.2.1, n, .inl (fun j => Int32.ofInt (h q (j : Int)))) := by unfold cE; rw [hl]
theorem fs_at {ad : Nat → Nat} {f : Int → Int} {ks ts : List Nat} {k : Nat} (hk : k < ks.length) : (ev_fs ad f ks ts)[k]? = some (if ks.getD k 0 = 2 then .ref (ad (ts.getD k 0)) else .int (Int32.ofInt (f (k : Int)))) := by
  unfold ev_fs
  rw [List.getElem?_map, List.getElem?_range hk]
  rfl
theorem fs_set {ad : Nat → Nat} {f : Int → Int} {ks ts : List Nat} {k : Nat} {v : Int} (hk : k < ks.length) (h2 : ks.getD k 0 ≠ 2) : ev_fs ad (fun j => if j = (k : Int) then v else f j) ks ts = (ev_fs ad f ks ts).set k (.int (Int32.ofInt v)) := by
  apply List.ext_getElem?
  intro j
  rw [List.getElem?_set]
  have hlen : (ev_fs ad f ks ts).length = ks.length := by simp [ev_fs]
  by_cases hj : j < ks.length
  · rw [fs_at hj]
    by_cases e : k = j
    · subst e
      rw [if_neg h2]
      simp [hlen, hk]
    · rw [if_neg e, fs_at hj]
      have : ¬ ((j : Int) = (k : Int)) := by omega
      simp [this]
  · rw [List.getElem?_eq_none (by simp [ev_fs]; omega), if_neg (by omega), List.getElem?_eq_none (by rw [hlen]; omega)]
-- constant rows and the script
def ro (w : WD) (k : Nat) (i : Int) : Int := if k = 90 then [3, 1, 2, 1].getD i.toNat 0 else if k = 91 then [4, 4, 5, 1].getD i.toNat 0 else if k = 92 then [50, 20, 100].getD i.toNat 0 else (w.2.2.2.2.2 i.toNat).toInt
def roN (w : WD) (k : Nat) : Nat := if k = 92 then 3 else if k = 93 then w.2.2.2.2.1 else 4
def ev_S (w : WD) (A : Nat → Prop) (U : State) (H : Heap) : Prop :=
  (∀ k, 90 ≤ k → k < 94 → va_T .int (w.1 k) (roN w k) (fun j => .int (Int32.ofInt (ro w k (j : Int)))) A U H) ∧ va_Z "HeededWishes" "TOP_OF_SORT" "[I" (.ref (w.1 90)) A U H ∧ va_Z "HeededWishes" "NUMBERS_OF_KIND" "[I" (.ref (w.1 91)) A U H ∧ va_Z "HeededWishes" "TOP_OF_BOUND" "[I" (.ref (w.1 92)) A U H
def ev_N (U : State) : Prop := ∀ u ∈ ev_nl, va_Nw u U
def Aw (w : WD) (sz : Nat) : Nat → Prop := fun q => (∃ k, k < 90 ∧ q = w.1 k) ∨ sz ≤ q
-- locals
def lg : List (Option AV) → Nat → Option AV
  | [], _ => none
  | a :: _, 0 => a
  | _ :: l, n + 1 => lg l n
def noL : Option AV → Option AV
  | some (.inr (.inl _)) => none
  | x => x
def stI : List (Option AV) → Nat → AV → List (Option AV)
  | [], _, _ => []
  | _ :: l, 0, v => some v :: l
  | a :: l, 1, v => noL a :: stI l 0 v
  | a :: l, n + 2, v => a :: stI l (n + 1) v
def stL : List (Option AV) → Nat → AV → List (Option AV)
  | [], _, _ => []
  | _ :: [], 0, _ => []
  | _ :: _ :: l, 0, v => some v :: none :: l
  | a :: l, 1, v => noL a :: stL l 0 v
  | a :: l, n + 2, v => a :: stL l (n + 1) v
def mk : List Bool → List (Option AV) → List (Option AV)
  | [], _ => []
  | _, [] => []
  | b :: bs, a :: l => (if b then a else none) :: mk bs l
theorem lg_mk : ∀ (bs : List Bool) (l : List (Option AV)) (i : Nat) (v : AV), lg (mk bs l) i = some v → lg l i = some v
  | [], l, i, v => by intro h; simp [mk, lg] at h
  | b :: bs, [], i, v => by intro h; simp [mk, lg] at h
  | b :: bs, a :: l, 0, v => by
    intro h
    simp only [mk, lg] at h ⊢
    cases b <;> simp_all
  | b :: bs, a :: l, n + 1, v => by
    intro h
    simp only [mk, lg] at h ⊢
    exact lg_mk bs l n v h
theorem noL_some {a : Option AV} {v : AV} (h : noL a = some v) : a = some v ∧ ∀ x, v ≠ .inr (.inl x) := by
  match a, h with
  | some (.inl x), h => simp only [noL] at h; cases h; exact ⟨rfl, fun x h => by cases h⟩
  | some (.inr (.inr x)), h => simp only [noL] at h; cases h; exact ⟨rfl, fun x h => by cases h⟩
  | some (.inr (.inl x)), h => simp [noL] at h
theorem lg_stI : ∀ (l : List (Option AV)) (i : Nat) (v : AV) (j : Nat) (u : AV), lg (stI l i v) j = some u → (j = i ∧ u = v) ∨ (j ≠ i ∧ lg l j = some u ∧ ¬ (j + 1 = i ∧ ∃ x, u = .inr (.inl x)))
  | [], i, v, j, u => by intro h; simp [stI, lg] at h
  | a :: l, 0, v, j, u => by
    intro h
    cases j with
    | zero => simp only [stI, lg, Option.some.injEq] at h; exact Or.inl ⟨rfl, h.symm⟩
    | succ j => simp only [stI, lg] at h ⊢; exact Or.inr ⟨by omega, h, fun c => by omega⟩
  | a :: l, 1, v, j, u => by
    intro h
    cases j with
    | zero =>
      simp only [stI, lg] at h ⊢
      obtain ⟨h1, h2⟩ := noL_some h
      exact Or.inr ⟨by omega, h1, fun c => h2 _ c.2.choose_spec⟩
    | succ j =>
      simp only [stI, lg] at h ⊢
      rcases lg_stI l 0 v j u h with ⟨a1, a2⟩ | ⟨a1, a2, a3⟩
      · exact Or.inl ⟨by omega, a2⟩
      · exact Or.inr ⟨by omega, a2, fun c => by omega⟩
  | a :: l, n + 2, v, j, u => by
    intro h
    cases j with
    | zero => simp only [stI, lg] at h ⊢; exact Or.inr ⟨by omega, h, fun c => by omega⟩
    | succ j =>
      simp only [stI, lg] at h ⊢
      rcases lg_stI l (n + 1) v j u h with ⟨a1, a2⟩ | ⟨a1, a2, a3⟩
      · exact Or.inl ⟨by omega, a2⟩
      · exact Or.inr ⟨by omega, a2, fun c => a3 ⟨by omega, c.2⟩⟩
theorem lg_stL : ∀ (l : List (Option AV)) (i : Nat) (v : AV) (j : Nat) (u : AV), lg (stL l i v) j = some u → (j = i ∧ u = v) ∨ (j ≠ i ∧ j ≠ i + 1 ∧ lg l j = some u ∧ ¬ (j + 1 = i ∧ ∃ x, u = .inr (.inl x)))
  | [], i, v, j, u => by intro h; simp [stL, lg] at h
  | [a], 0, v, j, u => by intro h; simp [stL, lg] at h
  | a :: b :: l, 0, v, j, u => by
    intro h
    match j, h with
    | 0, h => simp only [stL, lg, Option.some.injEq] at h; exact Or.inl ⟨rfl, h.symm⟩
    | 1, h => simp [stL, lg] at h
    | j + 2, h => simp only [stL, lg] at h ⊢; exact Or.inr ⟨by omega, by omega, h, fun c => by omega⟩
  | a :: l, 1, v, j, u => by
    intro h
    cases j with
    | zero =>
      simp only [stL, lg] at h ⊢
      obtain ⟨h1, h2⟩ := noL_some h
      exact Or.inr ⟨by omega, by omega, h1, fun c => h2 _ c.2.choose_spec⟩
    | succ j =>
      simp only [stL, lg] at h ⊢
      rcases lg_stL l 0 v j u h with ⟨a1, a2⟩ | ⟨a1, a0, a2, a3⟩
      · exact Or.inl ⟨by omega, a2⟩
      · exact Or.inr ⟨by omega, by omega, a2, fun c => by omega⟩
  | a :: l, n + 2, v, j, u => by
    intro h
    cases j with
    | zero => simp only [stL, lg] at h ⊢; exact Or.inr ⟨by omega, by omega, h, fun c => by omega⟩
    | succ j =>
      simp only [stL, lg] at h ⊢
      rcases lg_stL l (n + 1) v j u h with ⟨a1, a2⟩ | ⟨a1, a0, a2, a3⟩
      · exact Or.inl ⟨by omega, a2⟩
      · exact Or.inr ⟨by omega, by omega, a2, fun c => a3 ⟨by omega, c.2⟩⟩
def prs (ad : Nat → Nat) : Nat → List (Option AV) → List (Nat × Value)
  | _, [] => []
  | k, none :: l => prs ad (k + 1) l
  | k, some v :: l => (k, mv ad v) :: prs ad (k + 1) l
theorem prs_of {ad : Nat → Nat} : ∀ (l : List (Option AV)) (k j : Nat) (v : AV), lg l j = some v → (k + j, mv ad v) ∈ prs ad k l
  | [], k, j, v => by intro h; simp [lg] at h
  | none :: l, k, 0, v => by intro h; simp [lg] at h
  | some u :: l, k, 0, v => by
    intro h
    simp only [lg, Option.some.injEq] at h
    subst h
    simp [prs]
  | none :: l, k, j + 1, v => by
    intro h
    have := prs_of (ad := ad) l (k + 1) j v (by simpa [lg] using h)
    simp only [prs]
    have e : k + (j + 1) = k + 1 + j := by omega
    rw [e]; exact this
  | some u :: l, k, j + 1, v => by
    intro h
    have := prs_of (ad := ad) l (k + 1) j v (by simpa [lg] using h)
    simp only [prs]
    have e : k + (j + 1) = k + 1 + j := by omega
    rw [e]; exact List.mem_cons_of_mem _ this
theorem prs_to {ad : Nat → Nat} : ∀ (l : List (Option AV)) (k : Nat) (q : Nat × Value), q ∈ prs ad k l → ∃ j v, lg l j = some v ∧ q = (k + j, mv ad v)
  | [], k, q => by intro h; simp [prs] at h
  | none :: l, k, q => by
    intro h
    obtain ⟨j, v, h1, h2⟩ := prs_to l (k + 1) q (by simpa [prs] using h)
    exact ⟨j + 1, v, by simpa [lg] using h1, by rw [h2]; congr 1; omega⟩
  | some u :: l, k, q => by
    intro h
    simp only [prs, List.mem_cons] at h
    rcases h with h | h
    · exact ⟨0, u, rfl, h⟩
    · obtain ⟨j, v, h1, h2⟩ := prs_to l (k + 1) q h
      exact ⟨j + 1, v, by simpa [lg] using h1, by rw [h2]; congr 1; omega⟩
def lvh (w : WD) (ls : Array Slot) (n : Nat) (l : List (Option AV)) : Prop := lv_has ls n (prs w.1 0 l)
theorem lvh_at {w : WD} {ls : Array Slot} {n : Nat} {l : List (Option AV)} (h : lvh w ls n l) {i : Nat} {v : AV} (hi : lg l i = some v) : ls[i]? = some (.val (mv w.1 v)) := by
  have := h.2.2 _ (prs_of l 0 i v hi)
  simpa using this
theorem lvh_by {w : WD} {ls : Array Slot} {n : Nat} {l : List (Option AV)} {l2 : List (Nat × Value)} (h : lv_has ls n l2) (hm : ∀ i v, lg l i = some v → (i, mv w.1 v) ∈ l2) : lvh w ls n l := by
  refine ⟨h.1, h.2.1, fun q hq => ?_⟩
  obtain ⟨j, v, h1, rfl⟩ := prs_to l 0 q hq
  have := h.2.2 _ (hm j v h1)
  simpa using this
def okl (l : List (Option AV)) : Prop := ∀ i v, lg l i = some v → okv v
def oks (st : List AV) : Prop := ∀ v ∈ st, okv v
theorem oks_c {a : AV} {st : List AV} (ha : okv a) (h : oks st) : oks (a :: st) := fun v hv => by
  rcases List.mem_cons.mp hv with rfl | h1
  · exact ha
  · exact h v h1
theorem oks_h {a : AV} {st : List AV} (h : oks (a :: st)) : okv a := h a List.mem_cons_self
theorem oks_t {a : AV} {st : List AV} (h : oks (a :: st)) : oks st := fun v hv => h v (List.mem_cons_of_mem _ hv)
end
section
/-! the logic: Ev, its rules -/
def Wh (w : WD) (h : HP) (A : Nat → Prop) (s : State) (H : Heap) (locs : List Loc) : Prop := va_P w.2.1 ev_cl (wld w h) H ∧ va_D A (wld w h) ∧ va_S A s.heap H locs ∧ okh h
def retI : Option AV → Instr
  | none => .return_
  | some (.inl _) => .ireturn
  | some (.inr (.inl _)) => .lreturn
  | some (.inr (.inr _)) => .areturn
def rk : Option FieldType → Option AV → Prop
  | none, none => True
  | some .int, some (.inl _) => True
  | some .boolean, some (.inl x) => x = 0 ∨ x = 1
  | some .long, some (.inr (.inl _)) => True
  | _, _ => False
def okr : Option AV → Prop
  | none => True
  | some v => okv v
def En (w : WD) (Y : MI) (Q : Option AV → HP → Prop) (p : Program) (l : Launch) (e : Env) (R : Room) (s : State) (m : MethodId) (args : Array Value) (below : List Frame) (meth : Method) (c : Code) (A : Nat → Prop) (cells slots : Nat) (Z : State → Prop) : Prop :=
  CallFix p m c Y.2.1 Y.2.2.1 s args UL Y.1 ∧ (Y.2.2.2.2.1 ≤ R.frames ∧ Y.2.2.2.2.2 ≤ R.locals ∧ cells ≤ R.cells ∧ slots ≤ R.slots) ∧ (va_K w.2.1 ev_cl (ev_ty w) s ∧ ev_N s ∧ ev_S w A s s.heap ∧ ∀ q, s.heap.size ≤ q → A q) ∧
  ∀ (v : Option AV) (h : HP) (H : Heap) (locs : List Loc) (pc : Nat) (ls : Array Slot), Q v h → rk Y.2.2.2.1 v → okr v → Wh w h A s H locs → decode Y.2.1 pc = .ok (retI v, 1) → W p l e R s m args below meth c H locs cells slots Z (F0 m pc ls (v.toList.map (mv w.1)))
def Ev (w : WD) (Y : MI) (pc : Nat) (lv : List (Option AV)) (st : List AV) (h : HP) (Q : Option AV → HP → Prop) : Prop :=
  ∀ (p : Program) (l : Launch) (e : Env) (R : Room) (s : State) (m : MethodId) (args : Array Value) (below : List Frame) (meth : Method) (c : Code) (A : Nat → Prop) (cells slots : Nat) (Z : State → Prop),
  En w Y Q p l e R s m args below meth c A cells slots Z → ∀ (H : Heap) (locs : List Loc) (ls : Array Slot), Wh w h A s H locs → okl lv → oks st → lvh w ls Y.2.2.1 lv →
  W p l e R s m args below meth c H locs cells slots Z (F0 m pc ls (st.map (mv w.1)))
section EvRules
variable {w : WD} {Y : MI} {pc : Nat} {lv lv' : List (Option AV)} {st : List AV} {h : HP} {Q : Option AV → HP → Prop}
theorem e_mask (bs : List Bool) (hl : mk bs lv = lv') (k : Ev w Y pc lv' st h Q) : Ev w Y pc lv st h Q := by
  intro p l e R s m args below meth c A cells slots Z E H locs ls Wl hlv hst hl2
  subst hl
  exact k p l e R s m args below meth c A cells slots Z E H locs ls Wl (fun i v hv => hlv i v (lg_mk _ _ _ _ hv)) hst (lvh_by (l2 := prs w.1 0 lv) hl2 (fun i v hv => by have := prs_of (ad := w.1) lv 0 i v (lg_mk _ _ _ _ hv); simpa using this))
theorem e_conq {Q2 : Option AV → HP → Prop} (k : Ev w Y pc lv st h Q2) (hq : ∀ v h', Q2 v h' → Q v h') : Ev w Y pc lv st h Q := by
  intro p l e R s m args below meth c A cells slots Z E
  exact k p l e R s m args below meth c A cells slots Z ⟨E.1, E.2.1, E.2.2.1, fun v h H locs pc ls hv => E.2.2.2 v h H locs pc ls (hq v h hv)⟩
theorem e_iconst {n : Int} (hd : decode Y.2.1 pc = .ok (.iconst n, 1)) (hr : iR n) (k : Ev w Y (pc + 1) lv (vI n :: st) h Q) : Ev w Y pc lv st h Q := by
  intro p l e R s m args below meth c A cells slots Z E H locs ls Wl hlv hst hl
  exact lv_iconst E.1.1 E.1.2.1 hd rfl (k p l e R s m args below meth c A cells slots Z E H locs ls Wl hlv (oks_c hr hst) hl)
theorem e_bipush {n : Int} (hd : decode Y.2.1 pc = .ok (.bipush n, 2)) (hr : iR n) (hv : (Int8.ofInt n).toInt32 = Int32.ofInt n) (k : Ev w Y (pc + 2) lv (vI n :: st) h Q) : Ev w Y pc lv st h Q := by
  intro p l e R s m args below meth c A cells slots Z E H locs ls Wl hlv hst hl
  exact lv_bipush E.1.1 E.1.2.1 hd hv (k p l e R s m args below meth c A cells slots Z E H locs ls Wl hlv (oks_c hr hst) hl)
theorem e_sipush {n : Int} (hd : decode Y.2.1 pc = .ok (.sipush n, 3)) (hr : iR n) (hv : (Int16.ofInt n).toInt32 = Int32.ofInt n) (k : Ev w Y (pc + 3) lv (vI n :: st) h Q) : Ev w Y pc lv st h Q := by
  intro p l e R s m args below meth c A cells slots Z E H locs ls Wl hlv hst hl
  exact lv_sipush E.1.1 E.1.2.1 hd hv (k p l e R s m args below meth c A cells slots Z E H locs ls Wl hlv (oks_c hr hst) hl)
theorem e_lconst {n : Fin 2} {x : Int} (hd : decode Y.2.1 pc = .ok (.lconst n, 1)) (hr : lR x) (hv : Int64.ofNat (n : Nat) = Int64.ofInt x) (k : Ev w Y (pc + 1) lv (vL x :: st) h Q) : Ev w Y pc lv st h Q := by
  intro p l e R s m args below meth c A cells slots Z E H locs ls Wl hlv hst hl
  exact lv_lconst E.1.1 E.1.2.1 hd hv (k p l e R s m args below meth c A cells slots Z E H locs ls Wl hlv (oks_c hr hst) hl)
theorem e_ldc2 {i : Nat} {x : Int} (hd : decode Y.2.1 pc = .ok (.ldc2_w i, 3)) (hu : Cond.constantLong Y.1 i (Int64.ofInt x) ∈ UL) (hr : lR x) (k : Ev w Y (pc + 3) lv (vL x :: st) h Q) : Ev w Y pc lv st h Q := by
  intro p l e R s m args below meth c A cells slots Z E H locs ls Wl hlv hst hl
  exact lv_ldc2 E.1.1 E.1.2.1 E.1.2.2.2.1 (E.1.2.2.2.2 _ hu) hd (k p l e R s m args below meth c A cells slots Z E H locs ls Wl hlv (oks_c hr hst) hl)
theorem e_ldcw {i : Nat} {x : Int} (hd : decode Y.2.1 pc = .ok (.ldc_w i, 3)) (hu : Cond.constant Y.1 i (Int32.ofInt x) ∈ UL) (hr : iR x) (k : Ev w Y (pc + 3) lv (vI x :: st) h Q) : Ev w Y pc lv st h Q := by
  intro p l e R s m args below meth c A cells slots Z E H locs ls Wl hlv hst hl
  exact lv_ldcw E.1.1 E.1.2.1 E.1.2.2.2.1 (E.1.2.2.2.2 _ hu) hd (k p l e R s m args below meth c A cells slots Z E H locs ls Wl hlv (oks_c hr hst) hl)
theorem e_iload_n {j : Fin 4} {i : Nat} {x : Int} (hd : decode Y.2.1 pc = .ok (.iload_n j, 1)) (hi : (j : Nat) = i) (hx : lg lv i = some (vI x)) (k : Ev w Y (pc + 1) lv (vI x :: st) h Q) : Ev w Y pc lv st h Q := by
  intro p l e R s m args below meth c A cells slots Z E H locs ls Wl hlv hst hl
  exact lv_iload_n E.1.1 E.1.2.1 hd hi (lvh_at hl hx) (k p l e R s m args below meth c A cells slots Z E H locs ls Wl hlv (oks_c (hlv _ _ hx) hst) hl)
theorem e_iload {i : Nat} {x : Int} (hd : decode Y.2.1 pc = .ok (.iload i, 2)) (hx : lg lv i = some (vI x)) (k : Ev w Y (pc + 2) lv (vI x :: st) h Q) : Ev w Y pc lv st h Q := by
  intro p l e R s m args below meth c A cells slots Z E H locs ls Wl hlv hst hl
  exact lv_iload E.1.1 E.1.2.1 hd (lvh_at hl hx) (k p l e R s m args below meth c A cells slots Z E H locs ls Wl hlv (oks_c (hlv _ _ hx) hst) hl)
theorem e_lload_n {j : Fin 4} {i : Nat} {x : Int} (hd : decode Y.2.1 pc = .ok (.lload_n j, 1)) (hi : (j : Nat) = i) (hx : lg lv i = some (vL x)) (k : Ev w Y (pc + 1) lv (vL x :: st) h Q) : Ev w Y pc lv st h Q := by
  intro p l e R s m args below meth c A cells slots Z E H locs ls Wl hlv hst hl
  exact lv_lload_n E.1.1 E.1.2.1 hd hi (lvh_at hl hx) (k p l e R s m args below meth c A cells slots Z E H locs ls Wl hlv (oks_c (hlv _ _ hx) hst) hl)
theorem e_lload {i : Nat} {x : Int} (hd : decode Y.2.1 pc = .ok (.lload i, 2)) (hx : lg lv i = some (vL x)) (k : Ev w Y (pc + 2) lv (vL x :: st) h Q) : Ev w Y pc lv st h Q := by
  intro p l e R s m args below meth c A cells slots Z E H locs ls Wl hlv hst hl
  exact lv_lload E.1.1 E.1.2.1 hd (lvh_at hl hx) (k p l e R s m args below meth c A cells slots Z E H locs ls Wl hlv (oks_c (hlv _ _ hx) hst) hl)
theorem e_aload_n {j : Fin 4} {i : Nat} {x : Nat} (hd : decode Y.2.1 pc = .ok (.aload_n j, 1)) (hi : (j : Nat) = i) (hx : lg lv i = some (vR x)) (k : Ev w Y (pc + 1) lv (vR x :: st) h Q) : Ev w Y pc lv st h Q := by
  intro p l e R s m args below meth c A cells slots Z E H locs ls Wl hlv hst hl
  exact lv_aload_n E.1.1 E.1.2.1 hd hi (lvh_at hl hx) (k p l e R s m args below meth c A cells slots Z E H locs ls Wl hlv (oks_c trivial hst) hl)
theorem lvh_stI {ls : Array Slot} {n i : Nat} {v : AV} {V : Value} (hV : V = mv w.1 v) (hh : lv_has ls n ((i, V) :: (prs w.1 0 lv).filter (fun q => !(q.1 == i) && !(q.1 + 1 == i && q.2.category == 2)))) : lvh w ls n (stI lv i v) := by
  refine lvh_by hh (fun j u hu => ?_)
  rcases lg_stI _ _ _ _ _ hu with ⟨rfl, rfl⟩ | ⟨h1, h2, h3⟩
  · rw [hV]; exact List.mem_cons_self
  · refine List.mem_cons_of_mem _ (List.mem_filter.mpr ⟨?_, ?_⟩)
    · have := prs_of (ad := w.1) lv 0 j u h2
      simpa using this
    · simp only [Bool.and_eq_true, Bool.not_eq_true', beq_eq_false_iff_ne, ne_eq]
      refine ⟨h1, ?_⟩
      rw [Bool.and_eq_false_iff]
      by_cases e : j + 1 = i
      · right
        match u, h3 with
        | .inl x, _ => rfl
        | .inr (.inr x), _ => rfl
        | .inr (.inl x), h3 => exact absurd ⟨e, x, rfl⟩ h3
      · left; simpa using e
theorem okl_stI {i : Nat} {v : AV} (hv : okv v) (hlv : okl lv) : okl (stI lv i v) := fun j u hu => by
  rcases lg_stI _ _ _ _ _ hu with ⟨rfl, rfl⟩ | ⟨h1, h2, h3⟩
  · exact hv
  · exact hlv _ _ h2
theorem lvh_stL {ls : Array Slot} {n i : Nat} {v : AV} {V : Value} (hV : V = mv w.1 v) (hh : lv_has ls n ((i, V) :: (prs w.1 0 lv).filter (fun q => !(q.1 == i) && (!(q.1 == i + 1) && !(q.1 + 1 == i && q.2.category == 2))))) : lvh w ls n (stL lv i v) := by
  refine lvh_by hh (fun j u hu => ?_)
  rcases lg_stL _ _ _ _ _ hu with ⟨rfl, rfl⟩ | ⟨h1, h0, h2, h3⟩
  · rw [hV]; exact List.mem_cons_self
  · refine List.mem_cons_of_mem _ (List.mem_filter.mpr ⟨?_, ?_⟩)
    · have := prs_of (ad := w.1) lv 0 j u h2
      simpa using this
    · simp only [Bool.and_eq_true, Bool.not_eq_true', beq_eq_false_iff_ne, ne_eq]
      refine ⟨h1, h0, ?_⟩
      rw [Bool.and_eq_false_iff]
      by_cases e : j + 1 = i
      · right
        match u, h3 with
        | .inl x, _ => rfl
        | .inr (.inr x), _ => rfl
        | .inr (.inl x), h3 => exact absurd ⟨e, x, rfl⟩ h3
      · left; simpa using e
theorem okl_stL {i : Nat} {v : AV} (hv : okv v) (hlv : okl lv) : okl (stL lv i v) := fun j u hu => by
  rcases lg_stL _ _ _ _ _ hu with ⟨rfl, rfl⟩ | ⟨h1, h0, h2, h3⟩
  · exact hv
  · exact hlv _ _ h2
theorem e_istore_n {j : Fin 4} {i : Nat} {x : Int} (hd : decode Y.2.1 pc = .ok (.istore_n j, 1)) (hi : (j : Nat) = i) (hn : Nat.blt i Y.2.2.1 = true) (hl0 : stI lv i (vI x) = lv') (k : Ev w Y (pc + 1) lv' st h Q) : Ev w Y pc lv (vI x :: st) h Q := by
  intro p l e R s m args below meth c A cells slots Z E H locs ls Wl hlv hst hl
  subst hl0
  exact lv_istore_n E.1.1 E.1.2.1 hd hi hl (Nat.le_of_ble_eq_true hn) rfl (fun ls' hl' => k p l e R s m args below meth c A cells slots Z E H locs ls' Wl (okl_stI (oks_h hst) hlv) (oks_t hst) (lvh_stI rfl hl'))
theorem e_istore {i : Nat} {x : Int} (hd : decode Y.2.1 pc = .ok (.istore i, 2)) (hn : Nat.blt i Y.2.2.1 = true) (hl0 : stI lv i (vI x) = lv') (k : Ev w Y (pc + 2) lv' st h Q) : Ev w Y pc lv (vI x :: st) h Q := by
  intro p l e R s m args below meth c A cells slots Z E H locs ls Wl hlv hst hl
  subst hl0
  exact lv_istore E.1.1 E.1.2.1 hd hl (Nat.le_of_ble_eq_true hn) rfl (fun ls' hl' => k p l e R s m args below meth c A cells slots Z E H locs ls' Wl (okl_stI (oks_h hst) hlv) (oks_t hst) (lvh_stI rfl hl'))
theorem e_lstore_n {j : Fin 4} {i : Nat} {x : Int} (hd : decode Y.2.1 pc = .ok (.lstore_n j, 1)) (hi : (j : Nat) = i) (hn : Nat.blt (i + 1) Y.2.2.1 = true) (hl0 : stL lv i (vL x) = lv') (k : Ev w Y (pc + 1) lv' st h Q) : Ev w Y pc lv (vL x :: st) h Q := by
  intro p l e R s m args below meth c A cells slots Z E H locs ls Wl hlv hst hl
  subst hl0
  exact lv_lstore_n E.1.1 E.1.2.1 hd hi hl (Nat.le_of_ble_eq_true hn) rfl (fun ls' hl' => k p l e R s m args below meth c A cells slots Z E H locs ls' Wl (okl_stL (oks_h hst) hlv) (oks_t hst) (lvh_stL rfl hl'))
theorem e_iinc {i : Nat} {n x : Int} (hd : decode Y.2.1 pc = .ok (.iinc i n, 3)) (hx : lg lv i = some (vI x)) (hr : iR (x + n)) (hn : Nat.blt i Y.2.2.1 = true) (hl0 : stI lv i (vI (x + n)) = lv') (k : Ev w Y (pc + 3) lv' st h Q) : Ev w Y pc lv st h Q := by
  intro p l e R s m args below meth c A cells slots Z E H locs ls Wl hlv hst hl
  subst hl0
  have hm := prs_of (ad := w.1) lv 0 i _ hx
  rw [Nat.zero_add] at hm
  obtain ⟨k0, hk0⟩ := List.getElem?_of_mem hm
  exact lv_iinc (v := Int32.ofInt (x + n)) E.1.1 E.1.2.1 hd hl hk0 (i_add x n) (Nat.le_of_ble_eq_true hn) rfl (fun ls' hl' => k p l e R s m args below meth c A cells slots Z E H locs ls' Wl (okl_stI hr hlv) hst (lvh_stI rfl hl'))
theorem e_iadd {a b : Int} (hd : decode Y.2.1 pc = .ok (.iadd, 1)) (hr : iR (a + b)) (k : Ev w Y (pc + 1) lv (vI (a + b) :: st) h Q) : Ev w Y pc lv (vI b :: vI a :: st) h Q := by
  intro p l e R s m args below meth c A cells slots Z E H locs ls Wl hlv hst hl
  have k1 := k p l e R s m args below meth c A cells slots Z E H locs ls Wl hlv (oks_c hr (oks_t (oks_t hst))) hl
  refine lv_iadd E.1.1 E.1.2.1 hd ?_
  rw [i_add]
  exact k1
theorem e_isub {a b : Int} (hd : decode Y.2.1 pc = .ok (.isub, 1)) (hr : iR (a - b)) (k : Ev w Y (pc + 1) lv (vI (a - b) :: st) h Q) : Ev w Y pc lv (vI b :: vI a :: st) h Q := by
  intro p l e R s m args below meth c A cells slots Z E H locs ls Wl hlv hst hl
  have k1 := k p l e R s m args below meth c A cells slots Z E H locs ls Wl hlv (oks_c hr (oks_t (oks_t hst))) hl
  refine lv_isub E.1.1 E.1.2.1 hd ?_
  rw [i_sub]
  exact k1
theorem e_imul {a b : Int} (hd : decode Y.2.1 pc = .ok (.imul, 1)) (hr : iR (a * b)) (k : Ev w Y (pc + 1) lv (vI (a * b) :: st) h Q) : Ev w Y pc lv (vI b :: vI a :: st) h Q := by
  intro p l e R s m args below meth c A cells slots Z E H locs ls Wl hlv hst hl
  have k1 := k p l e R s m args below meth c A cells slots Z E H locs ls Wl hlv (oks_c hr (oks_t (oks_t hst))) hl
  refine lv_imul E.1.1 E.1.2.1 hd ?_
  rw [i_mul]
  exact k1
theorem e_idiv {a b : Int} (hd : decode Y.2.1 pc = .ok (.idiv, 1)) (hr : 0 ≤ a ∧ 0 < b) (k : Ev w Y (pc + 1) lv (vI (a / b) :: st) h Q) : Ev w Y pc lv (vI b :: vI a :: st) h Q := by
  intro p l e R s m args below meth c A cells slots Z E H locs ls Wl hlv hst hl
  have k1 := k p l e R s m args below meth c A cells slots Z E H locs ls Wl hlv (oks_c (i_dR hr.1 (oks_h (oks_t hst)) hr.2) (oks_t (oks_t hst))) hl
  refine lv_idiv E.1.1 E.1.2.1 hd (fun z => by rw [i_0, i_eq (oks_h hst) iR_0] at z; omega) ?_
  rw [i_div hr.1 (oks_h (oks_t hst)) hr.2 (oks_h hst)]
  exact k1
theorem e_irem {a b : Int} (hd : decode Y.2.1 pc = .ok (.irem, 1)) (hr : 0 ≤ a ∧ 0 < b) (k : Ev w Y (pc + 1) lv (vI (a % b) :: st) h Q) : Ev w Y pc lv (vI b :: vI a :: st) h Q := by
  intro p l e R s m args below meth c A cells slots Z E H locs ls Wl hlv hst hl
  have k1 := k p l e R s m args below meth c A cells slots Z E H locs ls Wl hlv (oks_c (i_mR hr.2 (oks_h hst)) (oks_t (oks_t hst))) hl
  refine lv_irem E.1.1 E.1.2.1 hd (fun z => by rw [i_0, i_eq (oks_h hst) iR_0] at z; omega) ?_
  rw [i_rem hr.1 (oks_h (oks_t hst)) hr.2 (oks_h hst)]
  exact k1
theorem e_iand {a b : Int} (hd : decode Y.2.1 pc = .ok (.iand, 1)) (k : Ev w Y (pc + 1) lv (vI (iand a b) :: st) h Q) : Ev w Y pc lv (vI b :: vI a :: st) h Q := by
  intro p l e R s m args below meth c A cells slots Z E H locs ls Wl hlv hst hl
  have k1 := k p l e R s m args below meth c A cells slots Z E H locs ls Wl hlv (oks_c (i_rng _) (oks_t (oks_t hst))) hl
  simp only [List.map_cons, mv, vI, iand, i_of] at k1
  exact lv_iand E.1.1 E.1.2.1 hd k1
theorem e_ior {a b : Int} (hd : decode Y.2.1 pc = .ok (.ior, 1)) (k : Ev w Y (pc + 1) lv (vI (ior a b) :: st) h Q) : Ev w Y pc lv (vI b :: vI a :: st) h Q := by
  intro p l e R s m args below meth c A cells slots Z E H locs ls Wl hlv hst hl
  have k1 := k p l e R s m args below meth c A cells slots Z E H locs ls Wl hlv (oks_c (i_rng _) (oks_t (oks_t hst))) hl
  simp only [List.map_cons, mv, vI, ior, i_of] at k1
  exact lv_ior E.1.1 E.1.2.1 hd k1
theorem e_ixor {a b : Int} (hd : decode Y.2.1 pc = .ok (.ixor, 1)) (k : Ev w Y (pc + 1) lv (vI (ixor a b) :: st) h Q) : Ev w Y pc lv (vI b :: vI a :: st) h Q := by
  intro p l e R s m args below meth c A cells slots Z E H locs ls Wl hlv hst hl
  have k1 := k p l e R s m args below meth c A cells slots Z E H locs ls Wl hlv (oks_c (i_rng _) (oks_t (oks_t hst))) hl
  simp only [List.map_cons, mv, vI, ixor, i_of] at k1
  exact lv_ixor E.1.1 E.1.2.1 hd k1
theorem e_ishl {a b : Int} (hd : decode Y.2.1 pc = .ok (.ishl, 1)) (k : Ev w Y (pc + 1) lv (vI (ishl a b) :: st) h Q) : Ev w Y pc lv (vI b :: vI a :: st) h Q := by
  intro p l e R s m args below meth c A cells slots Z E H locs ls Wl hlv hst hl
  have k1 := k p l e R s m args below meth c A cells slots Z E H locs ls Wl hlv (oks_c (i_rng _) (oks_t (oks_t hst))) hl
  simp only [List.map_cons, mv, vI, ishl, i_of] at k1
  exact lv_ishl E.1.1 E.1.2.1 hd k1
theorem e_ishr {a b : Int} (hd : decode Y.2.1 pc = .ok (.ishr, 1)) (k : Ev w Y (pc + 1) lv (vI (ishr a b) :: st) h Q) : Ev w Y pc lv (vI b :: vI a :: st) h Q := by
  intro p l e R s m args below meth c A cells slots Z E H locs ls Wl hlv hst hl
  have k1 := k p l e R s m args below meth c A cells slots Z E H locs ls Wl hlv (oks_c (i_rng _) (oks_t (oks_t hst))) hl
  simp only [List.map_cons, mv, vI, ishr, i_of] at k1
  exact lv_ishr E.1.1 E.1.2.1 hd k1
theorem e_iushr {a b : Int} (hd : decode Y.2.1 pc = .ok (.iushr, 1)) (k : Ev w Y (pc + 1) lv (vI (iushr a b) :: st) h Q) : Ev w Y pc lv (vI b :: vI a :: st) h Q := by
  intro p l e R s m args below meth c A cells slots Z E H locs ls Wl hlv hst hl
  have k1 := k p l e R s m args below meth c A cells slots Z E H locs ls Wl hlv (oks_c (i_rng _) (oks_t (oks_t hst))) hl
  simp only [List.map_cons, mv, vI, iushr, i_of] at k1
  exact lv_iushr E.1.1 E.1.2.1 hd rfl k1
theorem e_land {a b : Int} (hd : decode Y.2.1 pc = .ok (.land, 1)) (k : Ev w Y (pc + 1) lv (vL (jand a b) :: st) h Q) : Ev w Y pc lv (vL b :: vL a :: st) h Q := by
  intro p l e R s m args below meth c A cells slots Z E H locs ls Wl hlv hst hl
  have k1 := k p l e R s m args below meth c A cells slots Z E H locs ls Wl hlv (oks_c (l_rng _) (oks_t (oks_t hst))) hl
  simp only [List.map_cons, mv, vL, jand, l_of] at k1
  exact lv_land E.1.1 E.1.2.1 hd k1
theorem e_lor {a b : Int} (hd : decode Y.2.1 pc = .ok (.lor, 1)) (k : Ev w Y (pc + 1) lv (vL (jor a b) :: st) h Q) : Ev w Y pc lv (vL b :: vL a :: st) h Q := by
  intro p l e R s m args below meth c A cells slots Z E H locs ls Wl hlv hst hl
  have k1 := k p l e R s m args below meth c A cells slots Z E H locs ls Wl hlv (oks_c (l_rng _) (oks_t (oks_t hst))) hl
  simp only [List.map_cons, mv, vL, jor, l_of] at k1
  exact lv_lor E.1.1 E.1.2.1 hd k1
theorem e_lxor {a b : Int} (hd : decode Y.2.1 pc = .ok (.lxor, 1)) (k : Ev w Y (pc + 1) lv (vL (jxor a b) :: st) h Q) : Ev w Y pc lv (vL b :: vL a :: st) h Q := by
  intro p l e R s m args below meth c A cells slots Z E H locs ls Wl hlv hst hl
  have k1 := k p l e R s m args below meth c A cells slots Z E H locs ls Wl hlv (oks_c (l_rng _) (oks_t (oks_t hst))) hl
  simp only [List.map_cons, mv, vL, jxor, l_of] at k1
  exact lv_lxor E.1.1 E.1.2.1 hd k1
theorem e_lshl {a b : Int} (hd : decode Y.2.1 pc = .ok (.lshl, 1)) (k : Ev w Y (pc + 1) lv (vL (jshl a b) :: st) h Q) : Ev w Y pc lv (vI b :: vL a :: st) h Q := by
  intro p l e R s m args below meth c A cells slots Z E H locs ls Wl hlv hst hl
  have k1 := k p l e R s m args below meth c A cells slots Z E H locs ls Wl hlv (oks_c (l_rng _) (oks_t (oks_t hst))) hl
  simp only [List.map_cons, mv, vL, jshl, l_of] at k1
  exact lv_lshl E.1.1 E.1.2.1 hd rfl k1
theorem e_lshr {a b : Int} (hd : decode Y.2.1 pc = .ok (.lshr, 1)) (k : Ev w Y (pc + 1) lv (vL (jshr a b) :: st) h Q) : Ev w Y pc lv (vI b :: vL a :: st) h Q := by
  intro p l e R s m args below meth c A cells slots Z E H locs ls Wl hlv hst hl
  have k1 := k p l e R s m args below meth c A cells slots Z E H locs ls Wl hlv (oks_c (l_rng _) (oks_t (oks_t hst))) hl
  simp only [List.map_cons, mv, vL, jshr, l_of] at k1
  exact lv_lshr E.1.1 E.1.2.1 hd rfl k1
theorem e_lushr {a b : Int} (hd : decode Y.2.1 pc = .ok (.lushr, 1)) (k : Ev w Y (pc + 1) lv (vL (jushr a b) :: st) h Q) : Ev w Y pc lv (vI b :: vL a :: st) h Q := by
  intro p l e R s m args below meth c A cells slots Z E H locs ls Wl hlv hst hl
  have k1 := k p l e R s m args below meth c A cells slots Z E H locs ls Wl hlv (oks_c (l_rng _) (oks_t (oks_t hst))) hl
  simp only [List.map_cons, mv, vL, jushr, l_of] at k1
  exact lv_lushr E.1.1 E.1.2.1 hd rfl k1
theorem e_ladd {a b : Int} (hd : decode Y.2.1 pc = .ok (.ladd, 1)) (hr : lR (a + b)) (k : Ev w Y (pc + 1) lv (vL (a + b) :: st) h Q) : Ev w Y pc lv (vL b :: vL a :: st) h Q := by
  intro p l e R s m args below meth c A cells slots Z E H locs ls Wl hlv hst hl
  have k1 := k p l e R s m args below meth c A cells slots Z E H locs ls Wl hlv (oks_c hr (oks_t (oks_t hst))) hl
  refine lv_ladd E.1.1 E.1.2.1 hd ?_
  rw [l_add]
  exact k1
theorem e_lsub {a b : Int} (hd : decode Y.2.1 pc = .ok (.lsub, 1)) (hr : lR (a - b)) (k : Ev w Y (pc + 1) lv (vL (a - b) :: st) h Q) : Ev w Y pc lv (vL b :: vL a :: st) h Q := by
  intro p l e R s m args below meth c A cells slots Z E H locs ls Wl hlv hst hl
  have k1 := k p l e R s m args below meth c A cells slots Z E H locs ls Wl hlv (oks_c hr (oks_t (oks_t hst))) hl
  refine lv_lsub E.1.1 E.1.2.1 hd ?_
  rw [l_sub]
  exact k1
theorem e_i2l {a : Int} (hd : decode Y.2.1 pc = .ok (.i2l, 1)) (k : Ev w Y (pc + 1) lv (vL a :: st) h Q) : Ev w Y pc lv (vI a :: st) h Q := by
  intro p l e R s m args below meth c A cells slots Z E H locs ls Wl hlv hst hl
  exact lv_i2l E.1.1 E.1.2.1 hd (i_i2l (oks_h hst)) (k p l e R s m args below meth c A cells slots Z E H locs ls Wl hlv (oks_c (iR_lR (oks_h hst)) (oks_t hst)) hl)
theorem e_l2i {a : Int} (hd : decode Y.2.1 pc = .ok (.l2i, 1)) (k : Ev w Y (pc + 1) lv (vI (j2i a) :: st) h Q) : Ev w Y pc lv (vL a :: st) h Q := by
  intro p l e R s m args below meth c A cells slots Z E H locs ls Wl hlv hst hl
  have k1 := k p l e R s m args below meth c A cells slots Z E H locs ls Wl hlv (oks_c (i_rng _) (oks_t hst)) hl
  simp only [List.map_cons, mv, vI, j2i, i_of] at k1
  exact lv_l2i E.1.1 E.1.2.1 hd rfl k1
theorem e_dup {v : AV} (hd : decode Y.2.1 pc = .ok (.dup, 1)) (hc : (mv w.1 v).category = 1) (k : Ev w Y (pc + 1) lv (v :: v :: st) h Q) : Ev w Y pc lv (v :: st) h Q := by
  intro p l e R s m args below meth c A cells slots Z E H locs ls Wl hlv hst hl
  exact lv_dup E.1.1 E.1.2.1 hd hc (k p l e R s m args below meth c A cells slots Z E H locs ls Wl hlv (oks_c (oks_h hst) hst) hl)
theorem e_dup2 {u v : AV} (hd : decode Y.2.1 pc = .ok (.dup2, 1)) (hc : (mv w.1 u).category = 1) (hc2 : (mv w.1 v).category = 1) (k : Ev w Y (pc + 1) lv (u :: v :: u :: v :: st) h Q) : Ev w Y pc lv (u :: v :: st) h Q := by
  intro p l e R s m args below meth c A cells slots Z E H locs ls Wl hlv hst hl
  exact lv_dup2_11 E.1.1 E.1.2.1 hd hc hc2 (k p l e R s m args below meth c A cells slots Z E H locs ls Wl hlv (oks_c (oks_h hst) (oks_c (oks_h (oks_t hst)) hst)) hl)
theorem e_dup2l {v : AV} (hd : decode Y.2.1 pc = .ok (.dup2, 1)) (hc : (mv w.1 v).category = 2) (k : Ev w Y (pc + 1) lv (v :: v :: st) h Q) : Ev w Y pc lv (v :: st) h Q := by
  intro p l e R s m args below meth c A cells slots Z E H locs ls Wl hlv hst hl
  exact lv_dup2_2 E.1.1 E.1.2.1 hd hc (k p l e R s m args below meth c A cells slots Z E H locs ls Wl hlv (oks_c (oks_h hst) hst) hl)
theorem e_goto {off : Int} {tgt : Nat} (hd : decode Y.2.1 pc = .ok (.goto off, 3)) (ht : (pc : Int) + off = (tgt : Int)) (k : Ev w Y tgt lv st h Q) : Ev w Y pc lv st h Q := by
  intro p l e R s m args below meth c A cells slots Z E H locs ls Wl hlv hst hl
  exact lv_goto E.1.1 E.1.2.1 hd ht (k p l e R s m args below meth c A cells slots Z E H locs ls Wl hlv hst hl)
theorem e_icmp_lt {a b off : Int} {tgt : Nat} (hd : decode Y.2.1 pc = .ok (.if_icmp .lt off, 3)) (ht : (pc : Int) + off = (tgt : Int)) (kt : a < b → Ev w Y tgt lv st h Q) (kf : ¬ a < b → Ev w Y (pc + 3) lv st h Q) : Ev w Y pc lv (vI b :: vI a :: st) h Q := by
  intro p l e R s m args below meth c A cells slots Z E H locs ls Wl hlv hst hl
  have ra := oks_h (oks_t hst)
  have rb := oks_h hst
  exact lv_icmp_lt E.1.1 E.1.2.1 hd ht (fun c0 => kt (by rw [i_lt ra rb] at c0; exact c0) p l e R s m args below meth c A cells slots Z E H locs ls Wl hlv (oks_t (oks_t hst)) hl) (fun c0 => kf (by rw [i_lt ra rb] at c0; exact c0) p l e R s m args below meth c A cells slots Z E H locs ls Wl hlv (oks_t (oks_t hst)) hl)
theorem e_icmp_ge {a b off : Int} {tgt : Nat} (hd : decode Y.2.1 pc = .ok (.if_icmp .ge off, 3)) (ht : (pc : Int) + off = (tgt : Int)) (kt : b ≤ a → Ev w Y tgt lv st h Q) (kf : ¬ b ≤ a → Ev w Y (pc + 3) lv st h Q) : Ev w Y pc lv (vI b :: vI a :: st) h Q := by
  intro p l e R s m args below meth c A cells slots Z E H locs ls Wl hlv hst hl
  have ra := oks_h (oks_t hst)
  have rb := oks_h hst
  exact lv_icmp_ge E.1.1 E.1.2.1 hd ht (fun c0 => kt (by rw [i_le rb ra] at c0; exact c0) p l e R s m args below meth c A cells slots Z E H locs ls Wl hlv (oks_t (oks_t hst)) hl) (fun c0 => kf (by rw [i_le rb ra] at c0; exact c0) p l e R s m args below meth c A cells slots Z E H locs ls Wl hlv (oks_t (oks_t hst)) hl)
theorem e_icmp_gt {a b off : Int} {tgt : Nat} (hd : decode Y.2.1 pc = .ok (.if_icmp .gt off, 3)) (ht : (pc : Int) + off = (tgt : Int)) (kt : b < a → Ev w Y tgt lv st h Q) (kf : ¬ b < a → Ev w Y (pc + 3) lv st h Q) : Ev w Y pc lv (vI b :: vI a :: st) h Q := by
  intro p l e R s m args below meth c A cells slots Z E H locs ls Wl hlv hst hl
  have ra := oks_h (oks_t hst)
  have rb := oks_h hst
  exact lv_icmp_gt E.1.1 E.1.2.1 hd ht (fun c0 => kt (by rw [i_lt rb ra] at c0; exact c0) p l e R s m args below meth c A cells slots Z E H locs ls Wl hlv (oks_t (oks_t hst)) hl) (fun c0 => kf (by rw [i_lt rb ra] at c0; exact c0) p l e R s m args below meth c A cells slots Z E H locs ls Wl hlv (oks_t (oks_t hst)) hl)
theorem e_icmp_le {a b off : Int} {tgt : Nat} (hd : decode Y.2.1 pc = .ok (.if_icmp .le off, 3)) (ht : (pc : Int) + off = (tgt : Int)) (kt : a ≤ b → Ev w Y tgt lv st h Q) (kf : ¬ a ≤ b → Ev w Y (pc + 3) lv st h Q) : Ev w Y pc lv (vI b :: vI a :: st) h Q := by
  intro p l e R s m args below meth c A cells slots Z E H locs ls Wl hlv hst hl
  have ra := oks_h (oks_t hst)
  have rb := oks_h hst
  exact lv_icmp_le E.1.1 E.1.2.1 hd ht (fun c0 => kt (by rw [i_le ra rb] at c0; exact c0) p l e R s m args below meth c A cells slots Z E H locs ls Wl hlv (oks_t (oks_t hst)) hl) (fun c0 => kf (by rw [i_le ra rb] at c0; exact c0) p l e R s m args below meth c A cells slots Z E H locs ls Wl hlv (oks_t (oks_t hst)) hl)
theorem e_icmp_eq {a b off : Int} {tgt : Nat} (hd : decode Y.2.1 pc = .ok (.if_icmp .eq off, 3)) (ht : (pc : Int) + off = (tgt : Int)) (kt : a = b → Ev w Y tgt lv st h Q) (kf : ¬ a = b → Ev w Y (pc + 3) lv st h Q) : Ev w Y pc lv (vI b :: vI a :: st) h Q := by
  intro p l e R s m args below meth c A cells slots Z E H locs ls Wl hlv hst hl
  have ra := oks_h (oks_t hst)
  have rb := oks_h hst
  exact lv_icmp_eq E.1.1 E.1.2.1 hd ht (fun c0 => kt (by rw [i_eq ra rb] at c0; exact c0) p l e R s m args below meth c A cells slots Z E H locs ls Wl hlv (oks_t (oks_t hst)) hl) (fun c0 => kf (by rw [i_eq ra rb] at c0; exact c0) p l e R s m args below meth c A cells slots Z E H locs ls Wl hlv (oks_t (oks_t hst)) hl)
theorem e_icmp_ne {a b off : Int} {tgt : Nat} (hd : decode Y.2.1 pc = .ok (.if_icmp .ne off, 3)) (ht : (pc : Int) + off = (tgt : Int)) (kt : ¬ a = b → Ev w Y tgt lv st h Q) (kf : a = b → Ev w Y (pc + 3) lv st h Q) : Ev w Y pc lv (vI b :: vI a :: st) h Q := by
  intro p l e R s m args below meth c A cells slots Z E H locs ls Wl hlv hst hl
  have ra := oks_h (oks_t hst)
  have rb := oks_h hst
  exact lv_icmp_ne E.1.1 E.1.2.1 hd ht (fun c0 => kt (by rw [i_eq ra rb] at c0; exact c0) p l e R s m args below meth c A cells slots Z E H locs ls Wl hlv (oks_t (oks_t hst)) hl) (fun c0 => kf (by rw [i_eq ra rb] at c0; exact c0) p l e R s m args below meth c A cells slots Z E H locs ls Wl hlv (oks_t (oks_t hst)) hl)
theorem e_if_lt {a off : Int} {tgt : Nat} (hd : decode Y.2.1 pc = .ok (.ifCond .lt off, 3)) (ht : (pc : Int) + off = (tgt : Int)) (kt : a < 0 → Ev w Y tgt lv st h Q) (kf : ¬ a < 0 → Ev w Y (pc + 3) lv st h Q) : Ev w Y pc lv (vI a :: st) h Q := by
  intro p l e R s m args below meth c A cells slots Z E H locs ls Wl hlv hst hl
  have ra := oks_h hst
  exact lv_if_lt E.1.1 E.1.2.1 hd ht (fun c0 => kt (by rw [i_0, i_lt ra iR_0] at c0; exact c0) p l e R s m args below meth c A cells slots Z E H locs ls Wl hlv (oks_t hst) hl) (fun c0 => kf (by rw [i_0, i_lt ra iR_0] at c0; exact c0) p l e R s m args below meth c A cells slots Z E H locs ls Wl hlv (oks_t hst) hl)
theorem e_if_ge {a off : Int} {tgt : Nat} (hd : decode Y.2.1 pc = .ok (.ifCond .ge off, 3)) (ht : (pc : Int) + off = (tgt : Int)) (kt : 0 ≤ a → Ev w Y tgt lv st h Q) (kf : ¬ 0 ≤ a → Ev w Y (pc + 3) lv st h Q) : Ev w Y pc lv (vI a :: st) h Q := by
  intro p l e R s m args below meth c A cells slots Z E H locs ls Wl hlv hst hl
  have ra := oks_h hst
  exact lv_if_ge E.1.1 E.1.2.1 hd ht (fun c0 => kt (by rw [i_0, i_le iR_0 ra] at c0; exact c0) p l e R s m args below meth c A cells slots Z E H locs ls Wl hlv (oks_t hst) hl) (fun c0 => kf (by rw [i_0, i_le iR_0 ra] at c0; exact c0) p l e R s m args below meth c A cells slots Z E H locs ls Wl hlv (oks_t hst) hl)
theorem e_if_gt {a off : Int} {tgt : Nat} (hd : decode Y.2.1 pc = .ok (.ifCond .gt off, 3)) (ht : (pc : Int) + off = (tgt : Int)) (kt : 0 < a → Ev w Y tgt lv st h Q) (kf : ¬ 0 < a → Ev w Y (pc + 3) lv st h Q) : Ev w Y pc lv (vI a :: st) h Q := by
  intro p l e R s m args below meth c A cells slots Z E H locs ls Wl hlv hst hl
  have ra := oks_h hst
  exact lv_if_gt E.1.1 E.1.2.1 hd ht (fun c0 => kt (by rw [i_0, i_lt iR_0 ra] at c0; exact c0) p l e R s m args below meth c A cells slots Z E H locs ls Wl hlv (oks_t hst) hl) (fun c0 => kf (by rw [i_0, i_lt iR_0 ra] at c0; exact c0) p l e R s m args below meth c A cells slots Z E H locs ls Wl hlv (oks_t hst) hl)
theorem e_if_le {a off : Int} {tgt : Nat} (hd : decode Y.2.1 pc = .ok (.ifCond .le off, 3)) (ht : (pc : Int) + off = (tgt : Int)) (kt : a ≤ 0 → Ev w Y tgt lv st h Q) (kf : ¬ a ≤ 0 → Ev w Y (pc + 3) lv st h Q) : Ev w Y pc lv (vI a :: st) h Q := by
  intro p l e R s m args below meth c A cells slots Z E H locs ls Wl hlv hst hl
  have ra := oks_h hst
  exact lv_if_le E.1.1 E.1.2.1 hd ht (fun c0 => kt (by rw [i_0, i_le ra iR_0] at c0; exact c0) p l e R s m args below meth c A cells slots Z E H locs ls Wl hlv (oks_t hst) hl) (fun c0 => kf (by rw [i_0, i_le ra iR_0] at c0; exact c0) p l e R s m args below meth c A cells slots Z E H locs ls Wl hlv (oks_t hst) hl)
theorem e_if_eq {a off : Int} {tgt : Nat} (hd : decode Y.2.1 pc = .ok (.ifCond .eq off, 3)) (ht : (pc : Int) + off = (tgt : Int)) (kt : a = 0 → Ev w Y tgt lv st h Q) (kf : ¬ a = 0 → Ev w Y (pc + 3) lv st h Q) : Ev w Y pc lv (vI a :: st) h Q := by
  intro p l e R s m args below meth c A cells slots Z E H locs ls Wl hlv hst hl
  have ra := oks_h hst
  exact lv_if_eq E.1.1 E.1.2.1 hd ht (fun c0 => kt (by rw [i_0, i_eq ra iR_0] at c0; exact c0) p l e R s m args below meth c A cells slots Z E H locs ls Wl hlv (oks_t hst) hl) (fun c0 => kf (by rw [i_0, i_eq ra iR_0] at c0; exact c0) p l e R s m args below meth c A cells slots Z E H locs ls Wl hlv (oks_t hst) hl)
theorem e_if_ne {a off : Int} {tgt : Nat} (hd : decode Y.2.1 pc = .ok (.ifCond .ne off, 3)) (ht : (pc : Int) + off = (tgt : Int)) (kt : ¬ a = 0 → Ev w Y tgt lv st h Q) (kf : a = 0 → Ev w Y (pc + 3) lv st h Q) : Ev w Y pc lv (vI a :: st) h Q := by
  intro p l e R s m args below meth c A cells slots Z E H locs ls Wl hlv hst hl
  have ra := oks_h hst
  exact lv_if_ne E.1.1 E.1.2.1 hd ht (fun c0 => kt (by rw [i_0, i_eq ra iR_0] at c0; exact c0) p l e R s m args below meth c A cells slots Z E H locs ls Wl hlv (oks_t hst) hl) (fun c0 => kf (by rw [i_0, i_eq ra iR_0] at c0; exact c0) p l e R s m args below meth c A cells slots Z E H locs ls Wl hlv (oks_t hst) hl)
theorem e_lcmp {a b : Int} (hd : decode Y.2.1 pc = .ok (.lcmp, 1)) (k1 : a < b → Ev w Y (pc + 1) lv (vI (-1) :: st) h Q) (k2 : a = b → Ev w Y (pc + 1) lv (vI 0 :: st) h Q) (k3 : b < a → Ev w Y (pc + 1) lv (vI 1 :: st) h Q) : Ev w Y pc lv (vL b :: vL a :: st) h Q := by
  intro p l e R s m args below meth c A cells slots Z E H locs ls Wl hlv hst hl
  have ra := l_toInt (oks_h (oks_t hst))
  have rb := l_toInt (oks_h hst)
  refine W.lcmp E.1.1 E.1.2.1 hd ?_
  rcases Int.lt_trichotomy a b with c0 | c0 | c0
  · have e1 : lg_cmp (Int64.ofInt a) (Int64.ofInt b) = Int32.ofInt (-1) := by
      unfold lg_cmp
      rw [if_neg (fun z => by rw [gt_iff_lt, Int64.lt_iff_toInt_lt, ra, rb] at z; omega), if_neg (fun z => by have := congrArg Int64.toInt z; rw [ra, rb] at this; omega)]
      rfl
    rw [e1]
    exact k1 c0 p l e R s m args below meth c A cells slots Z E H locs ls Wl hlv (oks_c ⟨by decide, by decide⟩ (oks_t (oks_t hst))) hl
  · have e1 : lg_cmp (Int64.ofInt a) (Int64.ofInt b) = Int32.ofInt 0 := by
      unfold lg_cmp
      rw [if_neg (fun z => by rw [gt_iff_lt, Int64.lt_iff_toInt_lt, ra, rb] at z; omega), if_pos (by rw [c0])]
      rfl
    rw [e1]
    exact k2 c0 p l e R s m args below meth c A cells slots Z E H locs ls Wl hlv (oks_c iR_0 (oks_t (oks_t hst))) hl
  · have e1 : lg_cmp (Int64.ofInt a) (Int64.ofInt b) = Int32.ofInt 1 := by
      unfold lg_cmp
      rw [if_pos (by rw [gt_iff_lt, Int64.lt_iff_toInt_lt, ra, rb]; exact c0)]
      rfl
    rw [e1]
    exact k3 c0 p l e R s m args below meth c A cells slots Z E H locs ls Wl hlv (oks_c ⟨by decide, by decide⟩ (oks_t (oks_t hst))) hl
theorem e_table {dflt lo hi x : Int} {offs : Array Int} {len : Nat} (hd : decode Y.2.1 pc = .ok (.tableswitch dflt lo hi offs, len)) (ko : x < lo ∨ hi < x → ∃ tgt : Nat, (pc : Int) + dflt = (tgt : Int) ∧ Ev w Y tgt lv st h Q) (ki : lo ≤ x → x ≤ hi → ∃ (off : Int) (tgt : Nat), offs[(x - lo).toNat]? = some off ∧ (pc : Int) + off = (tgt : Int) ∧ Ev w Y tgt lv st h Q) : Ev w Y pc lv (vI x :: st) h Q := by
  intro p l e R s m args below meth c A cells slots Z E H locs ls Wl hlv hst hl
  have rx := i_toInt (oks_h hst)
  by_cases c0 : x < lo ∨ hi < x
  · obtain ⟨tgt, ht, k⟩ := ko c0
    exact lv_tableOut E.1.1 E.1.2.1 hd (by rw [rx]; exact c0) ht (k p l e R s m args below meth c A cells slots Z E H locs ls Wl hlv (oks_t hst) hl)
  · obtain ⟨off, tgt, ho, ht, k⟩ := ki (by omega) (by omega)
    exact lv_tableIn E.1.1 E.1.2.1 hd (by rw [rx]; omega) (by rw [rx]; omega) (by rw [rx]; exact ho) ht (k p l e R s m args below meth c A cells slots Z E H locs ls Wl hlv (oks_t hst) hl)
theorem e_lookup {dflt x : Int} {ps : Array (Int × Int)} {len : Nat} (hd : decode Y.2.1 pc = .ok (.lookupswitch dflt ps, len)) (hp : (ps.toList.zip (ps.toList.drop 1)).all (fun (a, next) => a.1 < next.1) = true) (k : ∃ (off : Int) (tgt : Nat), Op.lookupswitch.offset ps.toList dflt x = off ∧ (pc : Int) + off = (tgt : Int) ∧ Ev w Y tgt lv st h Q) : Ev w Y pc lv (vI x :: st) h Q := by
  intro p l e R s m args below meth c A cells slots Z E H locs ls Wl hlv hst hl
  have rx := i_toInt (oks_h hst)
  obtain ⟨off, tgt, ho, ht, k⟩ := k
  exact lv_lookup E.1.1 E.1.2.1 hd hp (by rw [rx]; exact ho) ht (k p l e R s m args below meth c A cells slots Z E H locs ls Wl hlv (oks_t hst) hl)
theorem e_ret {v : Option AV} (hd : decode Y.2.1 pc = .ok (retI v, 1)) (hst0 : st = v.toList) (hk : rk Y.2.2.2.1 v) (hq : Q v h) : Ev w Y pc lv st h Q := by
  intro p l e R s m args below meth c A cells slots Z E H locs ls Wl hlv hst hl
  subst hst0
  exact E.2.2.2 v h H locs pc ls hq hk (by cases v with | none => trivial | some v => exact hst v (by simp)) Wl hd
-- fields
theorem e_getI {q ci k idx : Nat} {C : String} {T : u_T} {N : Nat} {x : Int} (hd : decode Y.2.1 pc = .ok (.getfield idx, 3)) (hq : ly q = some (.inl ci)) (hc : ev_cl[ci]? = some (C, T, N)) (hin : ∀ u ∈ u_ws C T N, u ∈ UL) (hk : Nat.blt k N = true) (hu : Cond.fieldLink Y.1 idx (T k).1 (T k).2.1 (T k).2.2.1 ∈ UL) (hf : Nat.blt k (ev_fkd.getD ci []).length = true ∧ (ev_fkd.getD ci []).getD k 0 ≠ 2) (hx : h q (k : Int) = x) (kk : Ev w Y (pc + 3) lv (vI x :: st) h Q) : Ev w Y pc lv (vR q :: st) h Q := by
  intro p l e R s m args below meth c A cells slots Z E H locs ls Wl hlv hst hl
  have he : (wld w h)[q]? = some (w.1 q, .inr (ci, ev_fs w.1 (h q) (ev_fkd.getD ci []) (ev_tgt.getD q []))) := by rw [wld_at (ly_lt hq), cE_obj hq]
  have hv := fs_at (ad := w.1) (f := h q) (ts := ev_tgt.getD q []) (Nat.le_of_ble_eq_true hf.1)
  rw [if_neg hf.2, hx] at hv
  exact va_get E.1.1 E.1.2.1 E.1.2.2.2.2 hin E.1.2.2.2.1 E.2.2.1.1 Wl.1 q he hc k (Nat.le_of_ble_eq_true hk) (E.1.2.2.2.2 _ hu) (fun _ h9 => h9) hv hd (kk p l e R s m args below meth c A cells slots Z E H locs ls Wl hlv (oks_c (by rw [← hx]; exact Wl.2.2.2 _ _) (oks_t hst)) hl)
theorem e_getR {q ci k idx y : Nat} {C : String} {T : u_T} {N : Nat} (hd : decode Y.2.1 pc = .ok (.getfield idx, 3)) (hq : ly q = some (.inl ci)) (hc : ev_cl[ci]? = some (C, T, N)) (hin : ∀ u ∈ u_ws C T N, u ∈ UL) (hk : Nat.blt k N = true) (hu : Cond.fieldLink Y.1 idx (T k).1 (T k).2.1 (T k).2.2.1 ∈ UL) (hf : Nat.blt k (ev_fkd.getD ci []).length = true ∧ (ev_fkd.getD ci []).getD k 0 = 2) (hy : (ev_tgt.getD q []).getD k 0 = y) (kk : Ev w Y (pc + 3) lv (vR y :: st) h Q) : Ev w Y pc lv (vR q :: st) h Q := by
  intro p l e R s m args below meth c A cells slots Z E H locs ls Wl hlv hst hl
  have he : (wld w h)[q]? = some (w.1 q, .inr (ci, ev_fs w.1 (h q) (ev_fkd.getD ci []) (ev_tgt.getD q []))) := by rw [wld_at (ly_lt hq), cE_obj hq]
  have hv := fs_at (ad := w.1) (f := h q) (ts := ev_tgt.getD q []) (Nat.le_of_ble_eq_true hf.1)
  rw [if_pos hf.2, hy] at hv
  exact va_get E.1.1 E.1.2.1 E.1.2.2.2.2 hin E.1.2.2.2.1 E.2.2.1.1 Wl.1 q he hc k (Nat.le_of_ble_eq_true hk) (E.1.2.2.2.2 _ hu) (fun _ h9 => h9) hv hd (kk p l e R s m args below meth c A cells slots Z E H locs ls Wl hlv (oks_c trivial (oks_t hst)) hl)
theorem e_put {q ci k idx : Nat} {C : String} {T : u_T} {N : Nat} {x : Int} {ty : FieldType} (hd : decode Y.2.1 pc = .ok (.putfield idx, 3)) (hq : ly q = some (.inl ci)) (hc : ev_cl[ci]? = some (C, T, N)) (hin : ∀ u ∈ u_ws C T N, u ∈ UL) (ty0 : Nat → FieldType) (hty : ∀ k, k < N → parseFieldDescriptor (T k).2.2.1 = some (ty0 k)) (hnm : ∀ a, a < N → ∀ b, b < N → a ≠ b → (T a).2.1 ≠ (T b).2.1) (hk : Nat.blt k N = true) (hu : Cond.fieldLink Y.1 idx (T k).1 (T k).2.1 (T k).2.2.1 ∈ UL) (hf : Nat.blt k (ev_fkd.getD ci []).length = true ∧ (ev_fkd.getD ci []).getD k 0 ≠ 2) (hfin : (T k).2.2.2 = false) (hd2 : parseFieldDescriptor (T k).2.2.1 = some ty) (hz : ty = .int ∨ (ty = .boolean ∧ (x = 0 ∨ x = 1))) (kk : Ev w Y (pc + 3) lv st (sth h q (k : Int) x) Q) : Ev w Y pc lv (vI x :: vR q :: st) h Q := by
  intro p l e R s m args below meth c A cells slots Z E H locs ls Wl hlv hst hl
  have he : (wld w h)[q]? = some (w.1 q, .inr (ci, ev_fs w.1 (h q) (ev_fkd.getD ci []) (ev_tgt.getD q []))) := by rw [wld_at (ly_lt hq), cE_obj hq]
  have hl2 : k < (ev_fs w.1 (h q) (ev_fkd.getD ci []) (ev_tgt.getD q [])).length := by
    simp only [ev_fs, List.length_map, List.length_range]
    exact Nat.le_of_ble_eq_true hf.1
  have hnf : narrow ty (.int (Int32.ofInt x)) = .int (Int32.ofInt x) ∧ fits ty (.int (Int32.ofInt x)) = true := by
    rcases hz with rfl | ⟨rfl, rfl | rfl⟩
    · exact ⟨rfl, rfl⟩
    · exact ⟨by decide, by decide⟩
    · exact ⟨by decide, by decide⟩
  have hw : (wld w h).set q (w.1 q, .inr (ci, (ev_fs w.1 (h q) (ev_fkd.getD ci []) (ev_tgt.getD q [])).set k (.int (Int32.ofInt x)))) = wld w (sth h q (k : Int) x) := by
    rw [wld_set (h' := sth h q (k : Int) x) (ly_lt hq) (fun j hj => by unfold sth; rw [if_neg hj]), cE_obj hq]
    have : sth h q (k : Int) x q = fun j => if j = (k : Int) then x else h q j := by unfold sth; rw [if_pos rfl]
    rw [this, fs_set (Nat.le_of_ble_eq_true hf.1) hf.2]
  refine va_put E.1.1 E.1.2.1 E.1.2.2.2.2 hin ty0 hty hnm E.1.2.2.2.1 E.2.2.1.1 Wl.1 Wl.2.1 Wl.2.2.1 q he hc k (Nat.le_of_ble_eq_true hk) (E.1.2.2.2.2 _ hu) (fun _ h9 => h9) hfin hd2 hnf.1 hnf.2 hl2 hd (fun H1 locs1 hP hD hS => ?_)
  have hP : va_P w.2.1 ev_cl (wld w (sth h q (k : Int) x)) H1 := by rw [← hw]; exact hP
  have hD : va_D A (wld w (sth h q (k : Int) x)) := by rw [← hw]; exact hD
  exact kk p l e R s m args below meth c A cells slots Z E H1 locs1 ls ⟨hP, hD, hS, okh_st Wl.2.2.2 (oks_h hst)⟩ hlv (oks_t (oks_t hst)) hl
-- arrays
theorem ev_in {i : Int} {n : Nat} (hi : 0 ≤ i ∧ i < (n : Int)) (hr : iR i) : vp_in (Int32.ofInt i) n := by rw [vp_in_iff, i_toInt hr]; exact hi
theorem ev_cl0 {i : Int} (hr : iR i) : (Int32.ofInt i).toNatClampNeg = i.toNat := by
  show (Int32.ofInt i).toInt.toNat = i.toNat
  rw [i_toInt hr]
theorem e_iald {q n : Nat} {i x : Int} (hd : decode Y.2.1 pc = .ok (.iaload, 1)) (hq : ly q = some (.inr (false, n))) (hi : 0 ≤ i ∧ i < (n : Int)) (hx : h q i = x) (kk : Ev w Y (pc + 1) lv (vI x :: st) h Q) : Ev w Y pc lv (vI i :: vR q :: st) h Q := by
  intro p l e R s m args below meth c A cells slots Z E H locs ls Wl hlv hst hl
  have he : (wld w h)[q]? = some (w.1 q, .inl (w.2.2.1, n, .inl (fun j => Int32.ofInt (h q (j : Int))))) := by rw [wld_at (ly_lt hq), cE_arr hq]; rfl
  have k1 := kk p l e R s m args below meth c A cells slots Z E H locs ls Wl hlv (oks_c (by rw [← hx]; exact Wl.2.2.2 _ _) (oks_t (oks_t hst))) hl
  refine va_iald E.1.1 E.1.2.1 E.2.2.1.1 Wl.1 q 0 he rfl (ev_in hi (oks_h hst)) hd ?_
  rw [ev_cl0 (oks_h hst), Int.toNat_of_nonneg hi.1, hx]
  exact k1
theorem e_zald {q n : Nat} {i x : Int} (hd : decode Y.2.1 pc = .ok (.baload, 1)) (hq : ly q = some (.inr (true, n))) (hi : 0 ≤ i ∧ i < (n : Int)) (hx : h q i = x) (kk : Ev w Y (pc + 1) lv (vI x :: st) h Q) : Ev w Y pc lv (vI i :: vR q :: st) h Q := by
  intro p l e R s m args below meth c A cells slots Z E H locs ls Wl hlv hst hl
  have he : (wld w h)[q]? = some (w.1 q, .inl (w.2.2.2.1, n, .inl (fun j => Int32.ofInt (h q (j : Int))))) := by rw [wld_at (ly_lt hq), cE_arr hq]; rfl
  have k1 := kk p l e R s m args below meth c A cells slots Z E H locs ls Wl hlv (oks_c (by rw [← hx]; exact Wl.2.2.2 _ _) (oks_t (oks_t hst))) hl
  refine va_zald E.1.1 E.1.2.1 E.2.2.1.1 Wl.1 q 1 he rfl (ev_in hi (oks_h hst)) hd ?_
  rw [ev_cl0 (oks_h hst), Int.toNat_of_nonneg hi.1, hx]
  exact k1
theorem ev_upd {f : Int → Int} {i x : Int} (hi : 0 ≤ i) : upd (fun j : Nat => Int32.ofInt (f (j : Int))) i.toNat (Int32.ofInt x) = fun j : Nat => Int32.ofInt ((fun j => if j = i then x else f j) (j : Int)) := by
  funext j
  unfold upd
  by_cases e : j = i.toNat
  · rw [if_pos e]
    have : (j : Int) = i := by omega
    simp [this]
  · rw [if_neg e]
    have : ¬ (j : Int) = i := by omega
    simp [this]
theorem e_iast {q n : Nat} {i x : Int} (hd : decode Y.2.1 pc = .ok (.iastore, 1)) (hq : ly q = some (.inr (false, n))) (hi : 0 ≤ i ∧ i < (n : Int)) (kk : Ev w Y (pc + 1) lv st (sth h q i x) Q) : Ev w Y pc lv (vI x :: vI i :: vR q :: st) h Q := by
  intro p l e R s m args below meth c A cells slots Z E H locs ls Wl hlv hst hl
  have he : (wld w h)[q]? = some (w.1 q, .inl (w.2.2.1, n, .inl (fun j => Int32.ofInt (h q (j : Int))))) := by rw [wld_at (ly_lt hq), cE_arr hq]; rfl
  have hw : (wld w h).set q (w.1 q, .inl (w.2.2.1, n, .inl (upd (fun j => Int32.ofInt (h q (j : Int))) (Int32.ofInt i).toNatClampNeg (Int32.ofInt x)))) = wld w (sth h q i x) := by
    rw [wld_set (h' := sth h q i x) (ly_lt hq) (fun j hj => by unfold sth; rw [if_neg hj]), cE_arr hq, ev_cl0 (oks_h (oks_t hst)), ev_upd hi.1]
    have : sth h q i x q = fun j => if j = i then x else h q j := by unfold sth; rw [if_pos rfl]
    rw [this]
    rfl
  refine va_iast E.1.1 E.1.2.1 E.2.2.1.1 Wl.1 Wl.2.1 Wl.2.2.1 q 0 he rfl (ev_in hi (oks_h (oks_t hst))) hd (fun H1 locs1 hP hD hS => ?_)
  rw [hw] at hP hD
  exact kk p l e R s m args below meth c A cells slots Z E H1 locs1 ls ⟨hP, hD, hS, okh_st Wl.2.2.2 (oks_h hst)⟩ hlv (oks_t (oks_t (oks_t hst))) hl
theorem e_zast {q n : Nat} {i x : Int} (hd : decode Y.2.1 pc = .ok (.bastore, 1)) (hq : ly q = some (.inr (true, n))) (hi : 0 ≤ i ∧ i < (n : Int)) (hz : x = 0 ∨ x = 1) (kk : Ev w Y (pc + 1) lv st (sth h q i x) Q) : Ev w Y pc lv (vI x :: vI i :: vR q :: st) h Q := by
  intro p l e R s m args below meth c A cells slots Z E H locs ls Wl hlv hst hl
  have he : (wld w h)[q]? = some (w.1 q, .inl (w.2.2.2.1, n, .inl (fun j => Int32.ofInt (h q (j : Int))))) := by rw [wld_at (ly_lt hq), cE_arr hq]; rfl
  have hx : vp_nar .boolean (Int32.ofInt x) = Int32.ofInt x := by rcases hz with rfl | rfl <;> decide
  have hw : (wld w h).set q (w.1 q, .inl (w.2.2.2.1, n, .inl (upd (fun j => Int32.ofInt (h q (j : Int))) (Int32.ofInt i).toNatClampNeg (vp_nar .boolean (Int32.ofInt x))))) = wld w (sth h q i x) := by
    rw [hx, wld_set (h' := sth h q i x) (ly_lt hq) (fun j hj => by unfold sth; rw [if_neg hj]), cE_arr hq, ev_cl0 (oks_h (oks_t hst)), ev_upd hi.1]
    have : sth h q i x q = fun j => if j = i then x else h q j := by unfold sth; rw [if_pos rfl]
    rw [this]
    rfl
  refine va_zast E.1.1 E.1.2.1 E.2.2.1.1 Wl.1 Wl.2.1 Wl.2.2.1 q 1 he rfl (ev_in hi (oks_h (oks_t hst))) hd (fun H1 locs1 hP hD hS => ?_)
  rw [hw] at hP hD
  exact kk p l e R s m args below meth c A cells slots Z E H1 locs1 ls ⟨hP, hD, hS, okh_st Wl.2.2.2 (oks_h hst)⟩ hlv (oks_t (oks_t (oks_t hst))) hl
theorem e_alen {q n : Nat} {b : Bool} (hd : decode Y.2.1 pc = .ok (.arraylength, 1)) (hq : ly q = some (.inr (b, n))) (hr : iR (n : Int)) (kk : Ev w Y (pc + 1) lv (vI (n : Int) :: st) h Q) : Ev w Y pc lv (vR q :: st) h Q := by
  intro p l e R s m args below meth c A cells slots Z E H locs ls Wl hlv hst hl
  have he : (wld w h)[q]? = some (w.1 q, .inl (if b then w.2.2.2.1 else w.2.2.1, n, .inl (fun j => Int32.ofInt (h q (j : Int))))) := by rw [wld_at (ly_lt hq), cE_arr hq]
  have k1 := kk p l e R s m args below meth c A cells slots Z E H locs ls Wl hlv (oks_c hr (oks_t hst)) hl
  have hv : Int32.ofNat n = Int32.ofInt (n : Int) := (i_nat (by have := hr.2; omega)).symm
  cases b with
  | true => exact va_alen E.1.1 E.1.2.1 E.2.2.1.1 Wl.1 q 1 he (ty := .boolean) rfl hv hd k1
  | false => exact va_alen E.1.1 E.1.2.1 E.2.2.1.1 Wl.1 q 0 he (ty := .int) rfl hv hd k1
theorem e_rold {q : Nat} {i x : Int} (hd : decode Y.2.1 pc = .ok (.iaload, 1)) (hq : 90 ≤ q ∧ q < 94) (hi : 0 ≤ i ∧ i < (roN w q : Int)) (hx : ro w q i = x) (hr : iR x) (kk : Ev w Y (pc + 1) lv (vI x :: st) h Q) : Ev w Y pc lv (vI i :: vR q :: st) h Q := by
  intro p l e R s m args below meth c A cells slots Z E H locs ls Wl hlv hst hl
  have k1 := kk p l e R s m args below meth c A cells slots Z E H locs ls Wl hlv (oks_c hr (oks_t (oks_t hst))) hl
  refine va_ti E.1.1 E.1.2.1 (E.2.2.1.2.2.1.1 q hq.1 hq.2) Wl.2.2.1 (ev_in hi (oks_h hst)) (v := .int (Int32.ofInt x)) ?_ hd k1
  rw [ev_cl0 (oks_h hst), Int.toNat_of_nonneg hi.1, hx]
theorem e_rolen {q : Nat} (hd : decode Y.2.1 pc = .ok (.arraylength, 1)) (hq : 90 ≤ q ∧ q < 94) (hr : iR (roN w q : Int)) (kk : Ev w Y (pc + 1) lv (vI (roN w q : Int) :: st) h Q) : Ev w Y pc lv (vR q :: st) h Q := by
  intro p l e R s m args below meth c A cells slots Z E H locs ls Wl hlv hst hl
  have k1 := kk p l e R s m args below meth c A cells slots Z E H locs ls Wl hlv (oks_c hr (oks_t hst)) hl
  have hv : Int32.ofNat (roN w q) = Int32.ofInt (roN w q : Int) := (i_nat (by have := hr.2; omega)).symm
  exact va_tlen E.1.1 E.1.2.1 (E.2.2.1.2.2.1.1 q hq.1 hq.2) Wl.2.2.1 hv hd k1
theorem e_gets {q idx : Nat} {n : String} (hd : decode Y.2.1 pc = .ok (.getstatic idx, 3)) (hq : (q = 90 ∧ n = "TOP_OF_SORT") ∨ (q = 91 ∧ n = "NUMBERS_OF_KIND") ∨ (q = 92 ∧ n = "TOP_OF_BOUND")) (hu : Cond.fieldLink Y.1 idx "HeededWishes" n "[I" ∈ UL) (kk : Ev w Y (pc + 3) lv (vR q :: st) h Q) : Ev w Y pc lv st h Q := by
  intro p l e R s m args below meth c A cells slots Z E H locs ls Wl hlv hst hl
  have k1 := kk p l e R s m args below meth c A cells slots Z E H locs ls Wl hlv (oks_c trivial hst) hl
  have hS := E.2.2.1.2.2.1.2
  rcases hq with ⟨rfl, rfl⟩ | ⟨rfl, rfl⟩ | ⟨rfl, rfl⟩
  · exact va_gets E.1.1 E.1.2.1 hS.1 Wl.2.2.1 E.1.2.2.2.1 (E.1.2.2.2.2 _ hu) (fun _ h9 => h9) hd k1
  · exact va_gets E.1.1 E.1.2.1 hS.2.1 Wl.2.2.1 E.1.2.2.2.1 (E.1.2.2.2.2 _ hu) (fun _ h9 => h9) hd k1
  · exact va_gets E.1.1 E.1.2.1 hS.2.2 Wl.2.2.1 E.1.2.2.2.1 (E.1.2.2.2.2 _ hu) (fun _ h9 => h9) hd k1
theorem e_getsN {idx : Nat} (hd : decode Y.2.1 pc = .ok (.getstatic idx, 3)) (hu : Cond.fieldLinkNest Y.1 idx "HeededWishes" "TOP_OF_SORT" "[I" "HeededWishes" ∈ ev_nl) (kk : Ev w Y (pc + 3) lv (vR 90 :: st) h Q) : Ev w Y pc lv st h Q := by
  intro p l e R s m args below meth c A cells slots Z E H locs ls Wl hlv hst hl
  have k1 := kk p l e R s m args below meth c A cells slots Z E H locs ls Wl hlv (oks_c trivial hst) hl
  exact va_getsN E.1.1 E.1.2.1 E.2.2.1.2.2.1.2.1 Wl.2.2.1 E.1.2.2.2.1 (va_Nw.use rfl (E.2.2.1.2.1 _ hu)) (fun _ h9 => h9) hd k1
end EvRules
end
section
/-! calls: a method that Ev speaks of has a contract, and a caller may use it -/
def catA : AV → Nat
  | .inr (.inl _) => 2
  | _ => 1
theorem cat_mv (ad : Nat → Nat) (v : AV) : (mv ad v).category = catA v := by
  match v with
  | .inl x => rfl
  | .inr (.inl x) => rfl
  | .inr (.inr x) => rfl
def entL : List AV → List (Option AV)
  | [] => []
  | v :: vs => if catA v = 2 then some v :: none :: entL vs else some v :: entL vs
def padL (n : Nat) (l : List (Option AV)) : List (Option AV) := l ++ List.replicate (n - l.length) none
theorem ent_args {ad : Nat → Nat} : ∀ (vs : List AV) (k j : Nat) (u : AV) (n : Nat), lg (entL vs ++ List.replicate n none) j = some u → (k + j, mv ad u) ∈ lv_args k (vs.map (mv ad))
  | [], k, j, u, n => by
    intro h
    exfalso
    have : ∀ (n j : Nat), lg (List.replicate n none) j = none := by
      intro n
      induction n with
      | zero => intro j; rfl
      | succ n ih => intro j; cases j with
        | zero => rfl
        | succ j => exact ih j
    simp only [entL, List.nil_append, this] at h
    cases h
  | v :: vs, k, j, u, n => by
    intro h
    simp only [List.map_cons, lv_args, cat_mv]
    by_cases hc : catA v = 2
    · simp only [entL, if_pos hc, List.cons_append] at h ⊢
      match j, h with
      | 0, h => simp only [lg, Option.some.injEq] at h; subst h; simp
      | 1, h => simp [lg] at h
      | j + 2, h =>
        have := ent_args (ad := ad) vs (k + 2) j u n (by simpa [lg] using h)
        have e : k + (j + 2) = k + 2 + j := by omega
        rw [e]
        exact List.mem_cons_of_mem _ this
    · simp only [entL, if_neg hc, List.cons_append] at h ⊢
      match j, h with
      | 0, h => simp only [lg, Option.some.injEq] at h; subst h; simp
      | j + 1, h =>
        have := ent_args (ad := ad) vs (k + 1) j u n (by simpa [lg] using h)
        have e : k + (j + 1) = k + 1 + j := by omega
        rw [e]
        exact List.mem_cons_of_mem _ this
theorem ent_len {ad : Nat → Nat} : ∀ (vs : List AV), (lg_sl (vs.map (mv ad))).length = (entL vs).length
  | [] => rfl
  | v :: vs => by
    have ih := ent_len (ad := ad) vs
    unfold lg_sl at ih ⊢
    simp only [List.map_cons, List.flatMap_cons, List.length_append, cat_mv, ih]
    by_cases hc : catA v = 2
    · simp [entL, hc]; omega
    · simp [entL, hc]; omega
theorem ent_ok {vs : List AV} (hv : oks vs) : ∀ (n : Nat), okl (entL vs ++ List.replicate n none) := by
  intro n i u hu
  have h1 := ent_args (ad := fun x => x) vs 0 i u n hu
  clear h1
  induction vs generalizing i with
  | nil =>
    exfalso
    have : ∀ (n j : Nat), lg (List.replicate n none) j = none := by
      intro n
      induction n with
      | zero => intro j; rfl
      | succ n ih => intro j; cases j with
        | zero => rfl
        | succ j => exact ih j
    simp only [entL, List.nil_append, this] at hu
    cases hu
  | cons v vs ih =>
    by_cases hc : catA v = 2
    · simp only [entL, if_pos hc, List.cons_append] at hu
      match i, hu with
      | 0, hu => simp only [lg, Option.some.injEq] at hu; subst hu; exact oks_h hv
      | 1, hu => simp [lg] at hu
      | i + 2, hu => exact ih (oks_t hv) i (by simpa [lg] using hu)
    · simp only [entL, if_neg hc, List.cons_append] at hu
      match i, hu with
      | 0, hu => simp only [lg, Option.some.injEq] at hu; subst hu; exact oks_h hv
      | i + 1, hu => exact ih (oks_t hv) i (by simpa [lg] using hu)
/-- what a method of ours is: its words, its name -/
def mOK (y : MethodName) (Y : MI) (n : Nat) : Prop := Cond.code y Y.2.1 Y.2.2.1 Y.2.2.2.1 ∈ UL ∧ Cond.initialized Y.1 ∈ UL ∧ (y.cls ≠ "java/lang/invoke/MethodHandle" ∧ y.cls ≠ "java/lang/invoke/VarHandle" ∧ (parseMethodDescriptor y.desc).map (fun d => d.parameters.length) = some n) ∧ plainName y.cls = true ∧ y.cls = Y.1
def wsY (y : MethodName) (Y : MI) : List Cond := Cond.code y Y.2.1 Y.2.2.1 Y.2.2.2.1 :: UL
def rmY (Y : MI) : Room := { frames := Y.2.2.2.2.1, cells := 0, slots := 0, locals := Y.2.2.2.2.2 }
theorem ul_GI {y : MethodName} {Y : MI} {n : Nat} (hm : mOK y Y n) : GoodIn UL (wsY y Y) := fun u hu => by
  rcases List.mem_cons.mp hu with rfl | h1
  · exact ⟨hm.1, ul_good _ hm.1⟩
  · exact ⟨h1, ul_good _ h1⟩
def Bs (w : WD) (h : HP) (sz : Nat) (U : State) : Prop := U.heap.size = sz ∧ va_P w.2.1 ev_cl (wld w h) U.heap ∧ va_K w.2.1 ev_cl (ev_ty w) U ∧ va_D (fun _ => True) (wld w h) ∧ ev_N U ∧ ev_S w (Aw w sz) U U.heap
def Qg (w : WD) (Q : Option AV → HP → Prop) (A : Nat → Prop) : Array Value → State → Outcome → State → Prop := fun _ s oc t =>
  (∃ (v : Option AV) (h : HP), oc = .returned (v.map (mv w.1)) ∧ Q v h ∧ okr v ∧ okh h ∧ va_P w.2.1 ev_cl (wld w h) t.heap) ∧ va_F A s t
theorem ev_SM {w : WD} {A : Nat → Prop} {u U : State} {H : Heap} (hvm : u.vm.Alike U.vm) (h : ev_S w A u H) : ev_S w A U H := ⟨fun k h1 h2 => (h.1 k h1 h2).moved hvm, h.2.1.moved hvm, h.2.2.1.moved hvm, h.2.2.2.moved hvm⟩
theorem ev_SK {w : WD} {A : Nat → Prop} {U : State} {H H1 : Heap} (h : ev_S w A U H) (hq : ∀ a : Nat, a < H.size → ¬ A a → H1[a]? = H[a]?) : ev_S w A U H1 := ⟨fun k h1 h2 => (h.1 k h1 h2).kept hq, h.2.1.kept hq, h.2.2.1.kept hq, h.2.2.2.kept hq⟩
theorem ev_SN {w : WD} {A B : Nat → Prop} {U : State} {H : Heap} (h : ev_S w A U H) (hAB : ∀ q, B q → A q) : ev_S w B U H := ⟨fun k h1 h2 => (h.1 k h1 h2).narrow hAB, h.2.1.narrow hAB, h.2.2.1.narrow hAB, h.2.2.2.narrow hAB⟩
theorem ev_NW {s U : State} (hW : s.WarmedH U.vm) (h : ev_N s) : ev_N U := by
  intro u hu
  have h1 := h u hu
  unfold ev_nl at hu
  simp only [List.mem_cons, List.not_mem_nil, or_false] at hu
  rcases hu with rfl | rfl | rfl | rfl | rfl | rfl | rfl | rfl | rfl | rfl | rfl | rfl | rfl <;> first | exact va_Nw.warmM hW h1 | exact va_Nw.warmF hW h1
theorem ev_NS {u U : State} (h : u.vm = U.vm) (hN : ev_N u) : ev_N U := by
  intro x hx
  have h1 := hN x hx
  unfold ev_nl at hx
  simp only [List.mem_cons, List.not_mem_nil, or_false] at hx
  rcases hx with rfl | rfl | rfl | rfl | rfl | rfl | rfl | rfl | rfl | rfl | rfl | rfl | rfl <;> exact va_Nw.same rfl h h1
theorem Aw_D {w : WD} {h : HP} {sz : Nat} {B : Nat → Prop} (hD : va_D B (wld w h)) : va_D (Aw w sz) (wld w h) := ⟨hD.1, fun k q hk => by
  obtain ⟨h1, rfl⟩ := wld_in hk
  exact Or.inl ⟨k, h1, rfl⟩⟩
set_option maxHeartbeats 4000000 in
/-- the contract of a method out of Ev of its body -/
theorem ev_met {w : WD} {Y : MI} {h : HP} {Q : Option AV → HP → Prop} {y : MethodName} {n : Nat} {as : List AV} {lv0 : List (Option AV)} (l : Launch) (sz : Nat) (hm : mOK y Y n) (hh : okh h) (ha : oks as) (hlen : Nat.ble (entL as).length Y.2.2.1 = true) (hlv : padL Y.2.2.1 (entL as) = lv0) (hE : Ev w Y 0 lv0 [] h Q) :
    Met l y (wsY y Y) (rmY Y) (va_Pc (as.map (mv w.1)) (Bs w h sz)) (Qg w Q (Aw w sz)) 0 0 (Aw w sz) := by
  refine Met.ofW (cc := Y.2.1) (maxL := Y.2.2.1) (ret := Y.2.2.2.1) hm.2.2.2.1 rfl ?_
  intro p e s m args below meth c s₁ B hml hv
  obtain ⟨rfl, hsz, hP, hK, hD, hN, hS⟩ := hv
  subst hsz
  have hts := atoms_spec (ws := wsY y Y) B.pre
  have hown : s.vm.findClass y.cls = some m.cls := findClass_of_methodNamed B.named
  rw [hm.2.2.2.2] at hown
  have hle : (lg_sl (as.map (mv w.1))).length ≤ Y.2.2.1 := by rw [ent_len]; exact Nat.le_of_ble_eq_true hlen
  have hl := lv_entry (as.map (mv w.1)) hle
  rw [lg_entry_eq]
  generalize (lg_sl (as.map (mv w.1)) ++ List.replicate (Y.2.2.1 - (lg_sl (as.map (mv w.1))).length) Slot.unset).toArray = ls at hl ⊢
  subst hlv
  refine hE p l e (rmY Y) s m _ below meth c (Aw w s.heap.size) 0 0 _ ⟨⟨B.exec, B.bytes, hml, hown, fun u hu => hts u (List.mem_cons_of_mem _ hu)⟩, ⟨Nat.le_refl _, Nat.le_refl _, Nat.le_refl _, Nat.le_refl _⟩, ⟨hK, hN, hS, fun q hq => Or.inr hq⟩, ?_⟩ s.heap [] ls ⟨hP, Aw_D hD, va_S.rf, hh⟩ (ent_ok ha _) (fun v hv => by cases hv) (lvh_by hl (fun i u hu => by have := ent_args (ad := w.1) as 0 i u _ hu; simpa using this))
  intro v h' H' locs' pc' ls' hq hk ho hW hd
  have hr := B.returns
  have hlk := B.notSynchronized
  have hpost : ∀ t : State, t.heap = H' → s.WarmedH t.vm → Qg w Q (Aw w s.heap.size) (as.map (mv w.1)).toArray s (.returned (v.map (mv w.1))) t := fun t ht _ => ⟨⟨v, h', rfl, hq, ho, hW.2.2.2, by rw [ht]; exact hW.1⟩, hW.2.2.1.F ht⟩
  match v, hk, hd, hpost with
  | none, hk, hd, hpost =>
    have hr2 : meth.sig.returnType = none := by
      rw [hr]
      cases hY : Y.2.2.2.1 with
      | none => rfl
      | some t => rw [hY] at hk; cases t <;> exact hk.elim
    exact W.vret B.exec B.bytes hr2 hpost hW.2.2.1.2.2 hd hlk
  | some (.inl x), hk, hd, hpost =>
    cases hY : Y.2.2.2.1 with
    | none => rw [hY] at hk; exact hk.elim
    | some t =>
      rw [hY] at hk hr
      cases t with
      | int => exact W.iret B.exec B.bytes hr hpost hW.2.2.1.2.2 hd hlk
      | boolean =>
        have hn : narrow .boolean (.int (Int32.ofInt x)) = .int (Int32.ofInt x) := by
          rcases hk with rfl | rfl <;> decide
        exact W.zret B.exec B.bytes hr hn hpost hW.2.2.1.2.2 hd hlk
      | _ => exact hk.elim
  | some (.inr (.inl x)), hk, hd, hpost =>
    cases hY : Y.2.2.2.1 with
    | none => rw [hY] at hk; exact hk.elim
    | some t =>
      rw [hY] at hk hr
      cases t with
      | long => exact W.lret B.exec B.bytes hr hpost hW.2.2.1.2.2 hd hlk
      | _ => exact hk.elim
  | some (.inr (.inr x)), hk, hd, hpost =>
    cases hY : Y.2.2.2.1 with
    | none => rw [hY] at hk; exact hk.elim
    | some t => rw [hY] at hk; cases t <;> exact hk.elim
section EvCalls
variable {w : WD} {Y Y' : MI} {pc : Nat} {lv lv0 : List (Option AV)} {st st0 : List AV} {h : HP} {Q Q' : Option AV → HP → Prop} {y : MethodName} {n idx : Nat} {as : List AV}
theorem ev_back {p : Program} {l : Launch} {e : Env} {R : Room} {s : State} {m : MethodId} {args : Array Value} {below : List Frame} {meth : Method} {c : Code} {A : Nat → Prop} {cells slots : Nat} {Z : State → Prop} {H : Heap} {locs : List Loc} {ls : Array Slot} {a : Array Value}
    (E : En w Y Q p l e R s m args below meth c A cells slots Z) (Wl : Wh w h A s H locs) (hlv : okl lv) (hst : oks st) (hl : lvh w ls Y.2.2.1 lv)
    (hr : va_Run p l e R s m args below meth c H locs cells slots 0 0 (F0 m pc ls (st0.map (mv w.1))) (st.map (mv w.1)) (Qg w Q' (Aw w H.size) a) (Aw w H.size))
    (k : ∀ v h', Q' v h' → Ev w Y (pc + 3) lv (v.toList ++ st) h' Q) : W p l e R s m args below meth c H locs cells slots Z (F0 m pc ls (st0.map (mv w.1))) := by
  intro T hT X
  obtain ⟨v, st₀, t, T', L, h0, X', hL, e1, e2, ⟨⟨v', h', hv, hq, hok, hh', hP'⟩, hz, hk⟩, stp⟩ := hr T hT X
  have hv2 : v = v'.map (mv w.1) := Outcome.returned.inj hv
  subst hv2
  rw [h0] at hz hk
  have hAA : ∀ q, Aw w H.size q → A q := fun q hq => by
    rcases hq with ⟨j, hj, rfl⟩ | hq
    · exact Wl.2.1.2 j (w.1 j, cE w h j) (wld_at hj)
    · exact E.2.2.1.2.2.2 q (Nat.le_trans Wl.2.2.1.1 hq)
  have hS' : va_S A s.heap T'.heap (locs ++ L) := ⟨Nat.le_trans Wl.2.2.1.1 (by rw [e1]; exact hz), fun q h1 h2 => by rw [e1, hk q (Nat.lt_of_lt_of_le h1 Wl.2.2.1.1) (fun z => h2 (hAA q z))]; exact Wl.2.2.1.2.1 q h1 h2, fun q hq => by
    rcases List.mem_append.mp hq with h1 | h1
    · exact Wl.2.2.1.2.2 q h1
    · exact hAA _ (hL q h1)⟩
  have hst' : oks (v'.toList ++ st) := fun u hu => by
    rcases List.mem_append.mp hu with h1 | h1
    · cases v' with
      | none => cases h1
      | some z => simp only [Option.toList, List.mem_singleton] at h1; subst h1; exact hok
    · exact hst u h1
  obtain ⟨t2, a1, b1⟩ := k v' h' hq p l e R s m args below meth c A cells slots Z E T'.heap (locs ++ L) ls ⟨by rw [e1]; exact hP', wld_D Wl.2.1, hS', hh'⟩ hlv hst' hl T' rfl X'
  refine ⟨t2, stp t2 ?_, b1⟩
  have e3 : (v'.toList ++ st).map (mv w.1) = (v'.map (mv w.1)).toList ++ st.map (mv w.1) := by cases v' <;> simp
  rw [e3] at a1
  exact a1
theorem ev_pre {p : Program} {l : Launch} {e : Env} {R : Room} {s : State} {m : MethodId} {args : Array Value} {below : List Frame} {meth : Method} {c : Code} {A : Nat → Prop} {cells slots : Nat} {Z : State → Prop} {H : Heap} {locs : List Loc}
    (E : En w Y Q p l e R s m args below meth c A cells slots Z) (Wl : Wh w h A s H locs) : PreS s H (va_Pc (as.map (mv w.1)) (Bs w h H.size)) (as.map (mv w.1)) := by
  refine ⟨fun a U g mk q => ?_, fun U hU hW => ⟨rfl, by rw [hU], by rw [hU]; exact Wl.1, va_K.moved hW.alike E.2.2.1.1, Wl.2.1.weaken (fun _ _ _ _ => trivial), ev_NW hW E.2.2.1.2.1, ?_⟩⟩
  · obtain ⟨q0, q1, qP, qK, qD, qN, qS⟩ := q
    exact ⟨q0, q1, qP, va_K.moved (u := U) (U := U.calling g mk a) (Vm.Alike.refl U.vm) qK, qD, ev_NS (u := U) (U := U.calling g mk a) rfl qN, ev_SM (u := U) (U := U.calling g mk a) (Vm.Alike.refl U.vm) qS⟩
  · have h1 : ev_S w A s H := ev_SK E.2.2.1.2.2.1 (fun a h1 h2 => Wl.2.2.1.2.1 a h1 h2)
    have h2 : ev_S w (Aw w H.size) s H := ev_SN h1 (fun q hq => by
      rcases hq with ⟨j, hj, rfl⟩ | hq
      · exact Wl.2.1.2 j (w.1 j, cE w h j) (wld_at hj)
      · exact E.2.2.1.2.2.2 q (Nat.le_trans Wl.2.2.1.1 hq))
    rw [hU]
    exact ev_SM hW.alike h2
def fitY (Y' Y : MI) : Prop := Nat.ble (Y'.2.2.2.2.1 + 1) Y.2.2.2.2.1 = true ∧ Nat.ble (8 + (Y'.2.2.1 + 11) + Y'.2.2.2.2.2) Y.2.2.2.2.2 = true
theorem fit_R {R : Room} (hf : fitY Y' Y) (h1 : Y.2.2.2.2.1 ≤ R.frames) (h2 : Y.2.2.2.2.2 ≤ R.locals) : (rmY Y').frames + 1 ≤ R.frames ∧ 8 + (Y'.2.2.1 + 11) + (rmY Y').locals ≤ R.locals := ⟨Nat.le_trans (Nat.le_of_ble_eq_true hf.1) h1, Nat.le_trans (Nat.le_of_ble_eq_true hf.2) h2⟩
theorem cat_sum (hs : Nat.ble (st.map catA).sum 8 = true) : ((st.map (mv w.1)).map fun v => v.category).sum ≤ 8 := by
  have e : (st.map (mv w.1)).map (fun v => v.category) = st.map catA := by
    rw [List.map_map]
    apply List.map_congr_left
    intro v _
    exact cat_mv w.1 v
  rw [e]
  exact Nat.le_of_ble_eq_true hs
theorem e_invS (hd : decode Y.2.1 pc = .ok (.invokestatic idx, 3)) (hm : mOK y Y' n) (hu : Cond.methodLink Y.1 idx y ∈ UL) (hs : Cond.static y ∈ UL) (hf : fitY Y' Y) (hn : as.length = n) (hst0 : st0 = as.reverse ++ st) (hsum : Nat.ble (st.map catA).sum 8 = true) (hlen : Nat.ble (entL as).length Y'.2.2.1 = true) (hlv0 : padL Y'.2.2.1 (entL as) = lv0)
    (hE : Ev w Y' 0 lv0 [] h Q') (k : ∀ v h', Q' v h' → Ev w Y (pc + 3) lv (v.toList ++ st) h' Q) : Ev w Y pc lv st0 h Q := by
  intro p l e R s m args below meth c A cells slots Z E H locs ls Wl hlv hst hl
  have ha : oks as := fun v hv => hst v (by rw [hst0]; exact List.mem_append_left _ (List.mem_reverse.mpr hv))
  have hst' : oks st := fun v hv => hst v (by rw [hst0]; exact List.mem_append_right _ hv)
  have hM := ev_met l H.size hm Wl.2.2.2 ha hlen hlv0 hE
  have hG : GoodIn UL (va_wsS Y.1 idx y (wsY y Y')) := by
    intro u hu2
    unfold va_wsS at hu2
    rcases List.mem_append.mp hu2 with h1 | h1
    · simp only [List.mem_cons, List.not_mem_nil, or_false] at h1
      rcases h1 with rfl | rfl | rfl
      · exact ⟨hu, ul_good _ hu⟩
      · exact ⟨hs, ul_good _ hs⟩
      · rw [hm.2.2.2.2]; exact ⟨hm.2.1, ul_good _ hm.2.1⟩
    · exact ul_GI hm u h1
  refine ev_back (st := st) (Q' := Q') E Wl hlv hst' hl (va_runS (As := as.map (mv w.1)) E.1 hM (va_cwS n E.1.2.2.2.2 hG rfl rfl rfl hm.2.2.1 (fit_R hf E.2.1.1 E.2.1.2.1)) (ev_pre E Wl) rfl (by rw [List.length_map]; exact hn) hl.1 (by rw [hst0]; simp) (lv_room (cat_sum hsum)) hd ⟨E.2.1.2.2.1, E.2.1.2.2.2⟩) k
theorem e_invSN {host : String} (hd : decode Y.2.1 pc = .ok (.invokestatic idx, 3)) (hm : mOK y Y' n) (hu : Cond.methodLinkNest Y.1 idx y host ∈ ev_nl) (hs : Cond.static y ∈ UL) (hf : fitY Y' Y) (hn : as.length = n) (hst0 : st0 = as.reverse ++ st) (hsum : Nat.ble (st.map catA).sum 8 = true) (hlen : Nat.ble (entL as).length Y'.2.2.1 = true) (hlv0 : padL Y'.2.2.1 (entL as) = lv0)
    (hE : Ev w Y' 0 lv0 [] h Q') (k : ∀ v h', Q' v h' → Ev w Y (pc + 3) lv (v.toList ++ st) h' Q) : Ev w Y pc lv st0 h Q := by
  intro p l e R s m args below meth c A cells slots Z E H locs ls Wl hlv hst hl
  have ha : oks as := fun v hv => hst v (by rw [hst0]; exact List.mem_append_left _ (List.mem_reverse.mpr hv))
  have hst' : oks st := fun v hv => hst v (by rw [hst0]; exact List.mem_append_right _ hv)
  have hM := ev_met l H.size hm Wl.2.2.2 ha hlen hlv0 hE
  have hini : (Cond.initialized y.cls).before args s = true := by rw [hm.2.2.2.2]; exact E.1.2.2.2.2 _ hm.2.1
  refine ev_back (st := st) (Q' := Q') E Wl hlv hst' hl (va_runSN (As := as.map (mv w.1)) E.1 hM ⟨va_cnB n E.1.2.2.2.2 (ul_GI hm) rfl rfl rfl (E.2.2.1.2.1 _ hu) hini hm.2.2.1 (fit_R hf E.2.1.1 E.2.1.2.1), E.1.2.2.2.2 _ hs, trivial⟩ (ev_pre E Wl) rfl (by rw [List.length_map]; exact hn) hl.1 (by rw [hst0]; simp) (lv_room (cat_sum hsum)) hd ⟨E.2.1.2.2.1, E.2.1.2.2.2⟩) k
theorem e_invV {q ci : Nat} {T : u_T} {N : Nat} (hd : decode Y.2.1 pc = .ok (.invokevirtual idx, 3)) (hm : mOK y Y' n) (hu : Cond.methodLink Y.1 idx y ∈ UL) (hs : Cond.instanceMethod y ∈ UL ∧ Cond.selects Y'.1 y y ∈ UL) (hf : fitY Y' Y) (hq : ly q = some (.inl ci)) (hc : ev_cl[ci]? = some (Y'.1, T, N)) (hn : as.length = n) (hst0 : st0 = as.reverse ++ vR q :: st) (hsum : Nat.ble (st.map catA).sum 8 = true) (hlen : Nat.ble (entL (vR q :: as)).length Y'.2.2.1 = true) (hlv0 : padL Y'.2.2.1 (entL (vR q :: as)) = lv0)
    (hE : Ev w Y' 0 lv0 [] h Q') (k : ∀ v h', Q' v h' → Ev w Y (pc + 3) lv (v.toList ++ st) h' Q) : Ev w Y pc lv st0 h Q := by
  intro p l e R s m args below meth c A cells slots Z E H locs ls Wl hlv hst hl
  have ha : oks (vR q :: as) := oks_c trivial (fun v hv => hst v (by rw [hst0]; exact List.mem_append_left _ (List.mem_reverse.mpr hv)))
  have hst' : oks st := fun v hv => hst v (by rw [hst0]; exact List.mem_append_right _ (List.mem_cons_of_mem _ hv))
  have hM := ev_met l H.size hm Wl.2.2.2 ha hlen hlv0 hE
  have hG : GoodIn UL (wsV Y.1 idx Y'.1 y (wsY y Y')) := by
    intro u hu2
    unfold wsV at hu2
    rcases List.mem_append.mp hu2 with h1 | h1
    · simp only [List.mem_cons, List.not_mem_nil, or_false] at h1
      rcases h1 with rfl | rfl | rfl | rfl
      · exact ⟨hu, ul_good _ hu⟩
      · exact ⟨hs.1, ul_good _ hs.1⟩
      · exact ⟨hs.2, ul_good _ hs.2⟩
      · exact ⟨hm.2.1, ul_good _ hm.2.1⟩
    · exact ul_GI hm u h1
  have he : (wld w h)[q]? = some (w.1 q, .inr (ci, ev_fs w.1 (h q) (ev_fkd.getD ci []) (ev_tgt.getD q []))) := by rw [wld_at (ly_lt hq), cE_obj hq]
  have hrv := va_recv E.2.2.1.1 Wl.1 hc he
  have hpre := ev_pre (as := vR q :: as) E Wl
  refine ev_back (st := st) (Q' := Q') E Wl hlv hst' hl (va_runV (C := Y'.1) (b := w.1 q) (As := as.map (mv w.1)) E.1 hM (cwV n E.1.2.2.2.2 hG rfl rfl rfl ⟨hm.2.2.2.2, hm.2.2.1⟩ (fit_R hf E.2.1.1 E.2.1.2.1)) ⟨hpre.1, hrv, hpre.2⟩ rfl (by rw [List.length_map]; exact hn) hl.1 (by rw [hst0]; simp [mv]) (lv_room (cat_sum hsum)) hd ⟨E.2.1.2.2.1, E.2.1.2.2.2⟩) k
end EvCalls
def rI (K : Int → HP → Prop) : Option AV → HP → Prop := fun v h => ∃ r, v = some (vI r) ∧ K r h
def rL (K : Int → HP → Prop) : Option AV → HP → Prop := fun v h => ∃ r, v = some (vL r) ∧ K r h
def rV (K : HP → Prop) : Option AV → HP → Prop := fun v h => v = none ∧ K h
end
