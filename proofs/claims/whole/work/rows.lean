section
-- ===== PART A: goes FIRST, ahead of the names: the tables' words, and 'selects' of the private methods out of them =====
/-- a private method of a class that the tables say can be made, by its rows of tables_1 -/
def lw_okq (q : MethodName × Nat) : Prop := (q.1.cls ≠ "java/lang/invoke/MethodHandle" ∧ q.1.cls ≠ "java/lang/invoke/VarHandle") ∧ Cond.instantiable q.1.cls q.2 ∈ tables_1 ∧ Cond.privateMethod q.1 ∈ tables_1 ∧ Cond.instanceMethod q.1 ∈ tables_1
theorem lw_p0 : lw_okq (⟨"QuantisedLists", "learnCentres", "(I)V"⟩, 7) := ⟨⟨by decide +kernel, by decide +kernel⟩, List.mem_of_getElem? (i := 13) (by decide +kernel), List.mem_of_getElem? (i := 293) (by decide +kernel), List.mem_of_getElem? (i := 294) (by decide +kernel)⟩
theorem lw_p1 : lw_okq (⟨"QuantisedLists$Clustering", "chooseCentres", "()V"⟩, 9) := ⟨⟨by decide +kernel, by decide +kernel⟩, List.mem_of_getElem? (i := 49) (by decide +kernel), List.mem_of_getElem? (i := 305) (by decide +kernel), List.mem_of_getElem? (i := 306) (by decide +kernel)⟩
theorem lw_p2 : lw_okq (⟨"QuantisedLists$Clustering", "beginCentre", "(II)V"⟩, 9) := ⟨⟨by decide +kernel, by decide +kernel⟩, List.mem_of_getElem? (i := 49) (by decide +kernel), List.mem_of_getElem? (i := 309) (by decide +kernel), List.mem_of_getElem? (i := 310) (by decide +kernel)⟩
theorem lw_p3 : lw_okq (⟨"QuantisedLists$Clustering", "farthestItem", "(I)I"⟩, 9) := ⟨⟨by decide +kernel, by decide +kernel⟩, List.mem_of_getElem? (i := 49) (by decide +kernel), List.mem_of_getElem? (i := 313) (by decide +kernel), List.mem_of_getElem? (i := 314) (by decide +kernel)⟩
theorem lw_p4 : lw_okq (⟨"QuantisedLists$Clustering", "countMembers", "()V"⟩, 9) := ⟨⟨by decide +kernel, by decide +kernel⟩, List.mem_of_getElem? (i := 49) (by decide +kernel), List.mem_of_getElem? (i := 324) (by decide +kernel), List.mem_of_getElem? (i := 325) (by decide +kernel)⟩
theorem lw_p5 : lw_okq (⟨"QuantisedLists$Clustering", "moveToMeans", "()V"⟩, 9) := ⟨⟨by decide +kernel, by decide +kernel⟩, List.mem_of_getElem? (i := 49) (by decide +kernel), List.mem_of_getElem? (i := 328) (by decide +kernel), List.mem_of_getElem? (i := 329) (by decide +kernel)⟩
theorem lw_p6 : lw_okq (⟨"QuantisedLists$Clustering", "fillEmptyCentres", "()V"⟩, 9) := ⟨⟨by decide +kernel, by decide +kernel⟩, List.mem_of_getElem? (i := 49) (by decide +kernel), List.mem_of_getElem? (i := 335) (by decide +kernel), List.mem_of_getElem? (i := 336) (by decide +kernel)⟩
theorem lw_p7 : lw_okq (⟨"QuantisedLists$Clustering", "greatestShare", "()I"⟩, 9) := ⟨⟨by decide +kernel, by decide +kernel⟩, List.mem_of_getElem? (i := 49) (by decide +kernel), List.mem_of_getElem? (i := 339) (by decide +kernel), List.mem_of_getElem? (i := 340) (by decide +kernel)⟩
theorem lw_p8 : lw_okq (⟨"QuantisedLists$Clustering", "splitInto", "(II)V"⟩, 9) := ⟨⟨by decide +kernel, by decide +kernel⟩, List.mem_of_getElem? (i := 49) (by decide +kernel), List.mem_of_getElem? (i := 343) (by decide +kernel), List.mem_of_getElem? (i := 344) (by decide +kernel)⟩
theorem lw_p9 : lw_okq (⟨"QuantisedLists", "keepWhatIsLeft", "()V"⟩, 7) := ⟨⟨by decide +kernel, by decide +kernel⟩, List.mem_of_getElem? (i := 13) (by decide +kernel), List.mem_of_getElem? (i := 351) (by decide +kernel), List.mem_of_getElem? (i := 352) (by decide +kernel)⟩
theorem lw_p10 : lw_okq (⟨"QuantisedLists", "learnWords", "(I)V"⟩, 7) := ⟨⟨by decide +kernel, by decide +kernel⟩, List.mem_of_getElem? (i := 13) (by decide +kernel), List.mem_of_getElem? (i := 363) (by decide +kernel), List.mem_of_getElem? (i := 364) (by decide +kernel)⟩
theorem lw_p11 : lw_okq (⟨"QuantisedLists", "trainingError", "()I"⟩, 7) := ⟨⟨by decide +kernel, by decide +kernel⟩, List.mem_of_getElem? (i := 13) (by decide +kernel), List.mem_of_getElem? (i := 395) (by decide +kernel), List.mem_of_getElem? (i := 396) (by decide +kernel)⟩
theorem lw_p12 : lw_okq (⟨"QuantisedLists", "putEntry", "(IIIII)I"⟩, 7) := ⟨⟨by decide +kernel, by decide +kernel⟩, List.mem_of_getElem? (i := 13) (by decide +kernel), List.mem_of_getElem? (i := 435) (by decide +kernel), List.mem_of_getElem? (i := 436) (by decide +kernel)⟩
theorem lw_p13 : lw_okq (⟨"QuantisedLists$Finder", "lookThrough", "(LQuantisedLists$Quantiser;LQuantisedLists$EntryTable;)V"⟩, 9) := ⟨⟨by decide +kernel, by decide +kernel⟩, List.mem_of_getElem? (i := 171) (by decide +kernel), List.mem_of_getElem? (i := 490) (by decide +kernel), List.mem_of_getElem? (i := 491) (by decide +kernel)⟩
theorem lw_p14 : lw_okq (⟨"QuantisedLists$Finder", "sort", "(I)V"⟩, 9) := ⟨⟨by decide +kernel, by decide +kernel⟩, List.mem_of_getElem? (i := 171) (by decide +kernel), List.mem_of_getElem? (i := 503) (by decide +kernel), List.mem_of_getElem? (i := 504) (by decide +kernel)⟩
theorem lw_p15 : lw_okq (⟨"QuantisedLists$Finder", "isBefore", "(III)Z"⟩, 9) := ⟨⟨by decide +kernel, by decide +kernel⟩, List.mem_of_getElem? (i := 171) (by decide +kernel), List.mem_of_getElem? (i := 507) (by decide +kernel), List.mem_of_getElem? (i := 508) (by decide +kernel)⟩
def lw_privs_1 : List (MethodName × Nat) := [(⟨"QuantisedLists", "learnCentres", "(I)V"⟩, 7), (⟨"QuantisedLists$Clustering", "chooseCentres", "()V"⟩, 9), (⟨"QuantisedLists$Clustering", "beginCentre", "(II)V"⟩, 9), (⟨"QuantisedLists$Clustering", "farthestItem", "(I)I"⟩, 9), (⟨"QuantisedLists$Clustering", "countMembers", "()V"⟩, 9), (⟨"QuantisedLists$Clustering", "moveToMeans", "()V"⟩, 9), (⟨"QuantisedLists$Clustering", "fillEmptyCentres", "()V"⟩, 9), (⟨"QuantisedLists$Clustering", "greatestShare", "()I"⟩, 9), (⟨"QuantisedLists$Clustering", "splitInto", "(II)V"⟩, 9), (⟨"QuantisedLists", "keepWhatIsLeft", "()V"⟩, 7), (⟨"QuantisedLists", "learnWords", "(I)V"⟩, 7), (⟨"QuantisedLists", "trainingError", "()I"⟩, 7), (⟨"QuantisedLists", "putEntry", "(IIIII)I"⟩, 7), (⟨"QuantisedLists$Finder", "lookThrough", "(LQuantisedLists$Quantiser;LQuantisedLists$EntryTable;)V"⟩, 9), (⟨"QuantisedLists$Finder", "sort", "(I)V"⟩, 9), (⟨"QuantisedLists$Finder", "isBefore", "(III)Z"⟩, 9)]
theorem lw_r1 : ∀ q ∈ lw_privs_1, lw_okq q := List.forall_mem_cons.mpr ⟨lw_p0, List.forall_mem_cons.mpr ⟨lw_p1, List.forall_mem_cons.mpr ⟨lw_p2, List.forall_mem_cons.mpr ⟨lw_p3, List.forall_mem_cons.mpr ⟨lw_p4, List.forall_mem_cons.mpr ⟨lw_p5, List.forall_mem_cons.mpr ⟨lw_p6, List.forall_mem_cons.mpr ⟨lw_p7, List.forall_mem_cons.mpr ⟨lw_p8, List.forall_mem_cons.mpr ⟨lw_p9, List.forall_mem_cons.mpr ⟨lw_p10, List.forall_mem_cons.mpr ⟨lw_p11, List.forall_mem_cons.mpr ⟨lw_p12, List.forall_mem_cons.mpr ⟨lw_p13, List.forall_mem_cons.mpr ⟨lw_p14, List.forall_mem_cons.mpr ⟨lw_p15, fun _ h => absurd h List.not_mem_nil⟩⟩⟩⟩⟩⟩⟩⟩⟩⟩⟩⟩⟩⟩⟩⟩
theorem lw_p16 : lw_okq (⟨"QuantisedLists$Finder", "measure", "(LQuantisedLists$EntryTable;I)V"⟩, 9) := ⟨⟨by decide +kernel, by decide +kernel⟩, List.mem_of_getElem? (i := 171) (by decide +kernel), List.mem_of_getElem? (i := 512) (by decide +kernel), List.mem_of_getElem? (i := 513) (by decide +kernel)⟩
theorem lw_p17 : lw_okq (⟨"QuantisedLists$Finder", "keepIds", "(LQuantisedLists$EntryTable;)V"⟩, 9) := ⟨⟨by decide +kernel, by decide +kernel⟩, List.mem_of_getElem? (i := 171) (by decide +kernel), List.mem_of_getElem? (i := 517) (by decide +kernel), List.mem_of_getElem? (i := 518) (by decide +kernel)⟩
theorem lw_p18 : lw_okq (⟨"QuantisedLists", "writeHead", "()V"⟩, 7) := ⟨⟨by decide +kernel, by decide +kernel⟩, List.mem_of_getElem? (i := 13) (by decide +kernel), List.mem_of_getElem? (i := 542) (by decide +kernel), List.mem_of_getElem? (i := 543) (by decide +kernel)⟩
theorem lw_p19 : lw_okq (⟨"QuantisedLists", "writeCentres", "()V"⟩, 7) := ⟨⟨by decide +kernel, by decide +kernel⟩, List.mem_of_getElem? (i := 13) (by decide +kernel), List.mem_of_getElem? (i := 550) (by decide +kernel), List.mem_of_getElem? (i := 551) (by decide +kernel)⟩
theorem lw_p20 : lw_okq (⟨"QuantisedLists", "writeWords", "()V"⟩, 7) := ⟨⟨by decide +kernel, by decide +kernel⟩, List.mem_of_getElem? (i := 13) (by decide +kernel), List.mem_of_getElem? (i := 559) (by decide +kernel), List.mem_of_getElem? (i := 560) (by decide +kernel)⟩
theorem lw_p21 : lw_okq (⟨"QuantisedLists", "writeEntries", "()V"⟩, 7) := ⟨⟨by decide +kernel, by decide +kernel⟩, List.mem_of_getElem? (i := 13) (by decide +kernel), List.mem_of_getElem? (i := 563) (by decide +kernel), List.mem_of_getElem? (i := 564) (by decide +kernel)⟩
theorem lw_p22 : lw_okq (⟨"QuantisedLists$ByteFile", "hasSizes", "()Z"⟩, 2) := ⟨⟨by decide +kernel, by decide +kernel⟩, List.mem_of_getElem? (i := 213) (by decide +kernel), List.mem_of_getElem? (i := 591) (by decide +kernel), List.mem_of_getElem? (i := 592) (by decide +kernel)⟩
theorem lw_p23 : lw_okq (⟨"QuantisedLists$ByteFile", "entryStart", "(I)I"⟩, 2) := ⟨⟨by decide +kernel, by decide +kernel⟩, List.mem_of_getElem? (i := 213) (by decide +kernel), List.mem_of_getElem? (i := 601) (by decide +kernel), List.mem_of_getElem? (i := 602) (by decide +kernel)⟩
theorem lw_p24 : lw_okq (⟨"QuantisedLists$ByteFile", "wideCount", "()I"⟩, 2) := ⟨⟨by decide +kernel, by decide +kernel⟩, List.mem_of_getElem? (i := 213) (by decide +kernel), List.mem_of_getElem? (i := 605) (by decide +kernel), List.mem_of_getElem? (i := 606) (by decide +kernel)⟩
theorem lw_p25 : lw_okq (⟨"QuantisedLists$ByteFile", "hasWides", "()Z"⟩, 2) := ⟨⟨by decide +kernel, by decide +kernel⟩, List.mem_of_getElem? (i := 213) (by decide +kernel), List.mem_of_getElem? (i := 610) (by decide +kernel), List.mem_of_getElem? (i := 611) (by decide +kernel)⟩
theorem lw_p26 : lw_okq (⟨"QuantisedLists$ByteFile", "pairAt", "(I)I"⟩, 2) := ⟨⟨by decide +kernel, by decide +kernel⟩, List.mem_of_getElem? (i := 213) (by decide +kernel), List.mem_of_getElem? (i := 618) (by decide +kernel), List.mem_of_getElem? (i := 619) (by decide +kernel)⟩
theorem lw_p27 : lw_okq (⟨"QuantisedLists$ByteFile", "hasEntries", "()Z"⟩, 2) := ⟨⟨by decide +kernel, by decide +kernel⟩, List.mem_of_getElem? (i := 213) (by decide +kernel), List.mem_of_getElem? (i := 622) (by decide +kernel), List.mem_of_getElem? (i := 623) (by decide +kernel)⟩
theorem lw_p28 : lw_okq (⟨"QuantisedLists$ByteFile", "hasPoint", "(I)Z"⟩, 2) := ⟨⟨by decide +kernel, by decide +kernel⟩, List.mem_of_getElem? (i := 213) (by decide +kernel), List.mem_of_getElem? (i := 630) (by decide +kernel), List.mem_of_getElem? (i := 631) (by decide +kernel)⟩
theorem lw_p29 : lw_okq (⟨"QuantisedLists", "readHead", "()V"⟩, 7) := ⟨⟨by decide +kernel, by decide +kernel⟩, List.mem_of_getElem? (i := 13) (by decide +kernel), List.mem_of_getElem? (i := 638) (by decide +kernel), List.mem_of_getElem? (i := 639) (by decide +kernel)⟩
theorem lw_p30 : lw_okq (⟨"QuantisedLists", "readCentres", "()V"⟩, 7) := ⟨⟨by decide +kernel, by decide +kernel⟩, List.mem_of_getElem? (i := 13) (by decide +kernel), List.mem_of_getElem? (i := 643) (by decide +kernel), List.mem_of_getElem? (i := 644) (by decide +kernel)⟩
theorem lw_p31 : lw_okq (⟨"QuantisedLists", "readWords", "()V"⟩, 7) := ⟨⟨by decide +kernel, by decide +kernel⟩, List.mem_of_getElem? (i := 13) (by decide +kernel), List.mem_of_getElem? (i := 648) (by decide +kernel), List.mem_of_getElem? (i := 649) (by decide +kernel)⟩
def lw_privs_2 : List (MethodName × Nat) := [(⟨"QuantisedLists$Finder", "measure", "(LQuantisedLists$EntryTable;I)V"⟩, 9), (⟨"QuantisedLists$Finder", "keepIds", "(LQuantisedLists$EntryTable;)V"⟩, 9), (⟨"QuantisedLists", "writeHead", "()V"⟩, 7), (⟨"QuantisedLists", "writeCentres", "()V"⟩, 7), (⟨"QuantisedLists", "writeWords", "()V"⟩, 7), (⟨"QuantisedLists", "writeEntries", "()V"⟩, 7), (⟨"QuantisedLists$ByteFile", "hasSizes", "()Z"⟩, 2), (⟨"QuantisedLists$ByteFile", "entryStart", "(I)I"⟩, 2), (⟨"QuantisedLists$ByteFile", "wideCount", "()I"⟩, 2), (⟨"QuantisedLists$ByteFile", "hasWides", "()Z"⟩, 2), (⟨"QuantisedLists$ByteFile", "pairAt", "(I)I"⟩, 2), (⟨"QuantisedLists$ByteFile", "hasEntries", "()Z"⟩, 2), (⟨"QuantisedLists$ByteFile", "hasPoint", "(I)Z"⟩, 2), (⟨"QuantisedLists", "readHead", "()V"⟩, 7), (⟨"QuantisedLists", "readCentres", "()V"⟩, 7), (⟨"QuantisedLists", "readWords", "()V"⟩, 7)]
theorem lw_r2 : ∀ q ∈ lw_privs_2, lw_okq q := List.forall_mem_cons.mpr ⟨lw_p16, List.forall_mem_cons.mpr ⟨lw_p17, List.forall_mem_cons.mpr ⟨lw_p18, List.forall_mem_cons.mpr ⟨lw_p19, List.forall_mem_cons.mpr ⟨lw_p20, List.forall_mem_cons.mpr ⟨lw_p21, List.forall_mem_cons.mpr ⟨lw_p22, List.forall_mem_cons.mpr ⟨lw_p23, List.forall_mem_cons.mpr ⟨lw_p24, List.forall_mem_cons.mpr ⟨lw_p25, List.forall_mem_cons.mpr ⟨lw_p26, List.forall_mem_cons.mpr ⟨lw_p27, List.forall_mem_cons.mpr ⟨lw_p28, List.forall_mem_cons.mpr ⟨lw_p29, List.forall_mem_cons.mpr ⟨lw_p30, List.forall_mem_cons.mpr ⟨lw_p31, fun _ h => absurd h List.not_mem_nil⟩⟩⟩⟩⟩⟩⟩⟩⟩⟩⟩⟩⟩⟩⟩⟩
theorem lw_p32 : lw_okq (⟨"QuantisedLists", "readEntries", "()V"⟩, 7) := ⟨⟨by decide +kernel, by decide +kernel⟩, List.mem_of_getElem? (i := 13) (by decide +kernel), List.mem_of_getElem? (i := 652) (by decide +kernel), List.mem_of_getElem? (i := 653) (by decide +kernel)⟩
theorem lw_p33 : lw_okq (⟨"QuantisedListsModel", "give", "(IIII)Z"⟩, 33) := ⟨⟨by decide +kernel, by decide +kernel⟩, List.mem_of_getElem? (i := 658) (by decide +kernel), List.mem_of_getElem? (i := 779) (by decide +kernel), List.mem_of_getElem? (i := 780) (by decide +kernel)⟩
theorem lw_p34 : lw_okq (⟨"QuantisedListsModel", "turnIt", "()V"⟩, 33) := ⟨⟨by decide +kernel, by decide +kernel⟩, List.mem_of_getElem? (i := 658) (by decide +kernel), List.mem_of_getElem? (i := 790) (by decide +kernel), List.mem_of_getElem? (i := 791) (by decide +kernel)⟩
theorem lw_p35 : lw_okq (⟨"QuantisedListsModel", "cluster", "(III)V"⟩, 33) := ⟨⟨by decide +kernel, by decide +kernel⟩, List.mem_of_getElem? (i := 658) (by decide +kernel), List.mem_of_getElem? (i := 794) (by decide +kernel), List.mem_of_getElem? (i := 795) (by decide +kernel)⟩
theorem lw_p36 : lw_okq (⟨"QuantisedListsModel", "nearest", "(III)I"⟩, 33) := ⟨⟨by decide +kernel, by decide +kernel⟩, List.mem_of_getElem? (i := 658) (by decide +kernel), List.mem_of_getElem? (i := 798) (by decide +kernel), List.mem_of_getElem? (i := 799) (by decide +kernel)⟩
theorem lw_p37 : lw_okq (⟨"QuantisedListsModel", "gap", "(III)I"⟩, 33) := ⟨⟨by decide +kernel, by decide +kernel⟩, List.mem_of_getElem? (i := 658) (by decide +kernel), List.mem_of_getElem? (i := 802) (by decide +kernel), List.mem_of_getElem? (i := 803) (by decide +kernel)⟩
theorem lw_p38 : lw_okq (⟨"QuantisedListsModel", "mean", "(II)V"⟩, 33) := ⟨⟨by decide +kernel, by decide +kernel⟩, List.mem_of_getElem? (i := 658) (by decide +kernel), List.mem_of_getElem? (i := 806) (by decide +kernel), List.mem_of_getElem? (i := 807) (by decide +kernel)⟩
theorem lw_p39 : lw_okq (⟨"QuantisedListsModel", "fill", "(II)V"⟩, 33) := ⟨⟨by decide +kernel, by decide +kernel⟩, List.mem_of_getElem? (i := 658) (by decide +kernel), List.mem_of_getElem? (i := 813) (by decide +kernel), List.mem_of_getElem? (i := 814) (by decide +kernel)⟩
theorem lw_p40 : lw_okq (⟨"QuantisedListsModel", "hasMember", "(I)Z"⟩, 33) := ⟨⟨by decide +kernel, by decide +kernel⟩, List.mem_of_getElem? (i := 658) (by decide +kernel), List.mem_of_getElem? (i := 817) (by decide +kernel), List.mem_of_getElem? (i := 818) (by decide +kernel)⟩
theorem lw_p41 : lw_okq (⟨"QuantisedListsModel", "parts", "()I"⟩, 33) := ⟨⟨by decide +kernel, by decide +kernel⟩, List.mem_of_getElem? (i := 658) (by decide +kernel), List.mem_of_getElem? (i := 821) (by decide +kernel), List.mem_of_getElem? (i := 822) (by decide +kernel)⟩
theorem lw_p42 : lw_okq (⟨"QuantisedListsModel", "learn", "(II)V"⟩, 33) := ⟨⟨by decide +kernel, by decide +kernel⟩, List.mem_of_getElem? (i := 658) (by decide +kernel), List.mem_of_getElem? (i := 825) (by decide +kernel), List.mem_of_getElem? (i := 826) (by decide +kernel)⟩
theorem lw_p43 : lw_okq (⟨"QuantisedListsModel", "spread", "(I)V"⟩, 33) := ⟨⟨by decide +kernel, by decide +kernel⟩, List.mem_of_getElem? (i := 658) (by decide +kernel), List.mem_of_getElem? (i := 829) (by decide +kernel), List.mem_of_getElem? (i := 830) (by decide +kernel)⟩
theorem lw_p44 : lw_okq (⟨"QuantisedListsModel", "loss", "()I"⟩, 33) := ⟨⟨by decide +kernel, by decide +kernel⟩, List.mem_of_getElem? (i := 658) (by decide +kernel), List.mem_of_getElem? (i := 833) (by decide +kernel), List.mem_of_getElem? (i := 834) (by decide +kernel)⟩
theorem lw_p45 : lw_okq (⟨"QuantisedListsModel", "nearestWord", "(I)I"⟩, 33) := ⟨⟨by decide +kernel, by decide +kernel⟩, List.mem_of_getElem? (i := 658) (by decide +kernel), List.mem_of_getElem? (i := 837) (by decide +kernel), List.mem_of_getElem? (i := 838) (by decide +kernel)⟩
theorem lw_p46 : lw_okq (⟨"QuantisedListsModel", "wordGap", "(II)I"⟩, 33) := ⟨⟨by decide +kernel, by decide +kernel⟩, List.mem_of_getElem? (i := 658) (by decide +kernel), List.mem_of_getElem? (i := 841) (by decide +kernel), List.mem_of_getElem? (i := 842) (by decide +kernel)⟩
theorem lw_p47 : lw_okq (⟨"QuantisedListsModel", "size", "()I"⟩, 33) := ⟨⟨by decide +kernel, by decide +kernel⟩, List.mem_of_getElem? (i := 658) (by decide +kernel), List.mem_of_getElem? (i := 845) (by decide +kernel), List.mem_of_getElem? (i := 846) (by decide +kernel)⟩
def lw_privs_3 : List (MethodName × Nat) := [(⟨"QuantisedLists", "readEntries", "()V"⟩, 7), (⟨"QuantisedListsModel", "give", "(IIII)Z"⟩, 33), (⟨"QuantisedListsModel", "turnIt", "()V"⟩, 33), (⟨"QuantisedListsModel", "cluster", "(III)V"⟩, 33), (⟨"QuantisedListsModel", "nearest", "(III)I"⟩, 33), (⟨"QuantisedListsModel", "gap", "(III)I"⟩, 33), (⟨"QuantisedListsModel", "mean", "(II)V"⟩, 33), (⟨"QuantisedListsModel", "fill", "(II)V"⟩, 33), (⟨"QuantisedListsModel", "hasMember", "(I)Z"⟩, 33), (⟨"QuantisedListsModel", "parts", "()I"⟩, 33), (⟨"QuantisedListsModel", "learn", "(II)V"⟩, 33), (⟨"QuantisedListsModel", "spread", "(I)V"⟩, 33), (⟨"QuantisedListsModel", "loss", "()I"⟩, 33), (⟨"QuantisedListsModel", "nearestWord", "(I)I"⟩, 33), (⟨"QuantisedListsModel", "wordGap", "(II)I"⟩, 33), (⟨"QuantisedListsModel", "size", "()I"⟩, 33)]
theorem lw_r3 : ∀ q ∈ lw_privs_3, lw_okq q := List.forall_mem_cons.mpr ⟨lw_p32, List.forall_mem_cons.mpr ⟨lw_p33, List.forall_mem_cons.mpr ⟨lw_p34, List.forall_mem_cons.mpr ⟨lw_p35, List.forall_mem_cons.mpr ⟨lw_p36, List.forall_mem_cons.mpr ⟨lw_p37, List.forall_mem_cons.mpr ⟨lw_p38, List.forall_mem_cons.mpr ⟨lw_p39, List.forall_mem_cons.mpr ⟨lw_p40, List.forall_mem_cons.mpr ⟨lw_p41, List.forall_mem_cons.mpr ⟨lw_p42, List.forall_mem_cons.mpr ⟨lw_p43, List.forall_mem_cons.mpr ⟨lw_p44, List.forall_mem_cons.mpr ⟨lw_p45, List.forall_mem_cons.mpr ⟨lw_p46, List.forall_mem_cons.mpr ⟨lw_p47, fun _ h => absurd h List.not_mem_nil⟩⟩⟩⟩⟩⟩⟩⟩⟩⟩⟩⟩⟩⟩⟩⟩
theorem lw_p48 : lw_okq (⟨"QuantisedListsModel", "listNow", "()I"⟩, 33) := ⟨⟨by decide +kernel, by decide +kernel⟩, List.mem_of_getElem? (i := 658) (by decide +kernel), List.mem_of_getElem? (i := 861) (by decide +kernel), List.mem_of_getElem? (i := 862) (by decide +kernel)⟩
theorem lw_p49 : lw_okq (⟨"QuantisedListsModel", "away", "(I)I"⟩, 33) := ⟨⟨by decide +kernel, by decide +kernel⟩, List.mem_of_getElem? (i := 658) (by decide +kernel), List.mem_of_getElem? (i := 865) (by decide +kernel), List.mem_of_getElem? (i := 866) (by decide +kernel)⟩
theorem lw_p50 : lw_okq (⟨"QuantisedListsModel", "there", "(I)Z"⟩, 33) := ⟨⟨by decide +kernel, by decide +kernel⟩, List.mem_of_getElem? (i := 658) (by decide +kernel), List.mem_of_getElem? (i := 873) (by decide +kernel), List.mem_of_getElem? (i := 874) (by decide +kernel)⟩
theorem lw_p51 : lw_okq (⟨"QuantisedListsModel", "turnEntry", "(I)V"⟩, 33) := ⟨⟨by decide +kernel, by decide +kernel⟩, List.mem_of_getElem? (i := 658) (by decide +kernel), List.mem_of_getElem? (i := 881) (by decide +kernel), List.mem_of_getElem? (i := 882) (by decide +kernel)⟩
theorem lw_p52 : lw_okq (⟨"QuantisedListsModel", "leave", "(I)V"⟩, 33) := ⟨⟨by decide +kernel, by decide +kernel⟩, List.mem_of_getElem? (i := 658) (by decide +kernel), List.mem_of_getElem? (i := 889) (by decide +kernel), List.mem_of_getElem? (i := 890) (by decide +kernel)⟩
theorem lw_p53 : lw_okq (⟨"QuantisedListsModel", "measure", "(I)V"⟩, 33) := ⟨⟨by decide +kernel, by decide +kernel⟩, List.mem_of_getElem? (i := 658) (by decide +kernel), List.mem_of_getElem? (i := 905) (by decide +kernel), List.mem_of_getElem? (i := 906) (by decide +kernel)⟩
theorem lw_p54 : lw_okq (⟨"QuantisedListsModel", "probed", "(I)Z"⟩, 33) := ⟨⟨by decide +kernel, by decide +kernel⟩, List.mem_of_getElem? (i := 658) (by decide +kernel), List.mem_of_getElem? (i := 909) (by decide +kernel), List.mem_of_getElem? (i := 910) (by decide +kernel)⟩
theorem lw_p55 : lw_okq (⟨"QuantisedListsModel", "rank", "(I)I"⟩, 33) := ⟨⟨by decide +kernel, by decide +kernel⟩, List.mem_of_getElem? (i := 658) (by decide +kernel), List.mem_of_getElem? (i := 913) (by decide +kernel), List.mem_of_getElem? (i := 914) (by decide +kernel)⟩
theorem lw_p56 : lw_okq (⟨"QuantisedListsModel", "exactRank", "(I)I"⟩, 33) := ⟨⟨by decide +kernel, by decide +kernel⟩, List.mem_of_getElem? (i := 658) (by decide +kernel), List.mem_of_getElem? (i := 917) (by decide +kernel), List.mem_of_getElem? (i := 918) (by decide +kernel)⟩
theorem lw_p57 : lw_okq (⟨"QuantisedListsModel", "put", "(I)V"⟩, 33) := ⟨⟨by decide +kernel, by decide +kernel⟩, List.mem_of_getElem? (i := 658) (by decide +kernel), List.mem_of_getElem? (i := 937) (by decide +kernel), List.mem_of_getElem? (i := 938) (by decide +kernel)⟩
theorem lw_p58 : lw_okq (⟨"QuantisedListsModel", "putTwo", "(I)V"⟩, 33) := ⟨⟨by decide +kernel, by decide +kernel⟩, List.mem_of_getElem? (i := 658) (by decide +kernel), List.mem_of_getElem? (i := 941) (by decide +kernel), List.mem_of_getElem? (i := 942) (by decide +kernel)⟩
theorem lw_p59 : lw_okq (⟨"QuantisedListsModel", "sum", "(I)I"⟩, 33) := ⟨⟨by decide +kernel, by decide +kernel⟩, List.mem_of_getElem? (i := 658) (by decide +kernel), List.mem_of_getElem? (i := 945) (by decide +kernel), List.mem_of_getElem? (i := 946) (by decide +kernel)⟩
theorem lw_p60 : lw_okq (⟨"QuantisedListsModel", "fault", "()I"⟩, 33) := ⟨⟨by decide +kernel, by decide +kernel⟩, List.mem_of_getElem? (i := 658) (by decide +kernel), List.mem_of_getElem? (i := 965) (by decide +kernel), List.mem_of_getElem? (i := 966) (by decide +kernel)⟩
theorem lw_p61 : lw_okq (⟨"QuantisedListsModel", "head", "()I"⟩, 33) := ⟨⟨by decide +kernel, by decide +kernel⟩, List.mem_of_getElem? (i := 658) (by decide +kernel), List.mem_of_getElem? (i := 969) (by decide +kernel), List.mem_of_getElem? (i := 970) (by decide +kernel)⟩
theorem lw_p62 : lw_okq (⟨"QuantisedListsModel", "two", "(I)I"⟩, 33) := ⟨⟨by decide +kernel, by decide +kernel⟩, List.mem_of_getElem? (i := 658) (by decide +kernel), List.mem_of_getElem? (i := 973) (by decide +kernel), List.mem_of_getElem? (i := 974) (by decide +kernel)⟩
def lw_privs_4 : List (MethodName × Nat) := [(⟨"QuantisedListsModel", "listNow", "()I"⟩, 33), (⟨"QuantisedListsModel", "away", "(I)I"⟩, 33), (⟨"QuantisedListsModel", "there", "(I)Z"⟩, 33), (⟨"QuantisedListsModel", "turnEntry", "(I)V"⟩, 33), (⟨"QuantisedListsModel", "leave", "(I)V"⟩, 33), (⟨"QuantisedListsModel", "measure", "(I)V"⟩, 33), (⟨"QuantisedListsModel", "probed", "(I)Z"⟩, 33), (⟨"QuantisedListsModel", "rank", "(I)I"⟩, 33), (⟨"QuantisedListsModel", "exactRank", "(I)I"⟩, 33), (⟨"QuantisedListsModel", "put", "(I)V"⟩, 33), (⟨"QuantisedListsModel", "putTwo", "(I)V"⟩, 33), (⟨"QuantisedListsModel", "sum", "(I)I"⟩, 33), (⟨"QuantisedListsModel", "fault", "()I"⟩, 33), (⟨"QuantisedListsModel", "head", "()I"⟩, 33), (⟨"QuantisedListsModel", "two", "(I)I"⟩, 33)]
theorem lw_r4 : ∀ q ∈ lw_privs_4, lw_okq q := List.forall_mem_cons.mpr ⟨lw_p48, List.forall_mem_cons.mpr ⟨lw_p49, List.forall_mem_cons.mpr ⟨lw_p50, List.forall_mem_cons.mpr ⟨lw_p51, List.forall_mem_cons.mpr ⟨lw_p52, List.forall_mem_cons.mpr ⟨lw_p53, List.forall_mem_cons.mpr ⟨lw_p54, List.forall_mem_cons.mpr ⟨lw_p55, List.forall_mem_cons.mpr ⟨lw_p56, List.forall_mem_cons.mpr ⟨lw_p57, List.forall_mem_cons.mpr ⟨lw_p58, List.forall_mem_cons.mpr ⟨lw_p59, List.forall_mem_cons.mpr ⟨lw_p60, List.forall_mem_cons.mpr ⟨lw_p61, List.forall_mem_cons.mpr ⟨lw_p62, fun _ h => absurd h List.not_mem_nil⟩⟩⟩⟩⟩⟩⟩⟩⟩⟩⟩⟩⟩⟩⟩
def lw_privs : List (MethodName × Nat) := lw_privs_1 ++ (lw_privs_2 ++ (lw_privs_3 ++ (lw_privs_4)))
def lw_tbl : List Cond := k2_sels lw_privs ++ tables_1
theorem lw_privs_ok : ∀ q ∈ lw_privs, lw_okq q := by
  show ∀ q ∈ lw_privs_1 ++ (lw_privs_2 ++ (lw_privs_3 ++ (lw_privs_4))), lw_okq q
  exact List.forall_mem_append.mpr ⟨lw_r1, List.forall_mem_append.mpr ⟨lw_r2, List.forall_mem_append.mpr ⟨lw_r3, lw_r4⟩⟩⟩
end
section
def isNest : Cond → Bool
  | .fieldLinkNest .. => true
  | .methodLinkNest .. => true
  | _ => false
/-- the tables' words that every contract carries, and the nest mates' words, which stand in its premise -/
def gtbl : List Cond := lw_tbl.filter goodWord
def ntbl : List Cond := lw_tbl.filter isNest
theorem tb {w : Cond} (i : Nat) (h : tables_1[i]? = some w) (g : goodWord w = true) : w ∈ gtbl := List.mem_filter.mpr ⟨List.mem_append_right _ (List.mem_of_getElem? h), g⟩
theorem tbn {w : Cond} (i : Nat) (h : tables_1[i]? = some w) (g : isNest w = true) : w ∈ ntbl := List.mem_filter.mpr ⟨List.mem_append_right _ (List.mem_of_getElem? h), g⟩
theorem tbs {y : MethodName} {n : Nat} (i : Nat) (h : lw_privs[i]? = some (y, n)) : Cond.selects y.cls y y ∈ gtbl := List.mem_filter.mpr ⟨List.mem_append_left _ (List.mem_map.mpr ⟨(y, n), List.mem_of_getElem? h, rfl⟩), rfl⟩
theorem zin {C : String} {T : u_T} {N : Nat} (ix : List Nat) (h : ∀ k, k < N → tables_1[ix.getD k 0]? = some (u_lay C T k)) : ∀ w ∈ u_ws C T N, w ∈ gtbl := by
  intro w hw
  obtain ⟨k, hk, rfl⟩ := List.mem_map.mp hw
  refine tb _ (h k (List.mem_range.mp hk)) ?_
  unfold u_lay
  split <;> rfl
abbrev Mt : Type := MethodName × ByteArray × Nat × Option FieldType × Nat × Nat
def zT0 : u_T := fun k => match k with
  | 0 => ("QuantisedLists", "axes", "LQuantisedLists$Turn;", true)
  | 1 => ("QuantisedLists", "samples", "LQuantisedLists$Samples;", true)
  | 2 => ("QuantisedLists", "clustering", "LQuantisedLists$Clustering;", true)
  | 3 => ("QuantisedLists", "quantiser", "LQuantisedLists$Quantiser;", true)
  | 4 => ("QuantisedLists", "table", "LQuantisedLists$EntryTable;", true)
  | 5 => ("QuantisedLists", "finder", "LQuantisedLists$Finder;", true)
  | _ => ("QuantisedLists", "file", "LQuantisedLists$ByteFile;", true)
def zty0 : Nat → FieldType := fun k => match k with
  | 0 => .object "QuantisedLists$Turn"
  | 1 => .object "QuantisedLists$Samples"
  | 2 => .object "QuantisedLists$Clustering"
  | 3 => .object "QuantisedLists$Quantiser"
  | 4 => .object "QuantisedLists$EntryTable"
  | 5 => .object "QuantisedLists$Finder"
  | _ => .object "QuantisedLists$ByteFile"
theorem zin0 : ∀ w ∈ u_ws "QuantisedLists" zT0 7, w ∈ gtbl := zin [234, 236, 238, 240, 242, 244, 246] (by decide +kernel)
theorem zok0 : ∀ k, k < 7 → parseFieldDescriptor (zT0 k).2.2.1 = some (zty0 k) := by decide +kernel
theorem znm0 : ∀ a, a < 7 → ∀ b, b < 7 → a ≠ b → (zT0 a).2.1 ≠ (zT0 b).2.1 := by decide +kernel
def zT1 : u_T := fun k => match k with
  | _ => ("QuantisedLists$Turn", "steps", "[I", true)
def zty1 : Nat → FieldType := fun k => match k with
  | _ => .array .int
theorem zin1 : ∀ w ∈ u_ws "QuantisedLists$Turn" zT1 1, w ∈ gtbl := zin [28] (by decide +kernel)
theorem zok1 : ∀ k, k < 1 → parseFieldDescriptor (zT1 k).2.2.1 = some (zty1 k) := by decide +kernel
theorem znm1 : ∀ a, a < 1 → ∀ b, b < 1 → a ≠ b → (zT1 a).2.1 ≠ (zT1 b).2.1 := by decide +kernel
def zT2 : u_T := fun k => match k with
  | 0 => ("QuantisedLists$Samples", "points", "[[I", true)
  | _ => ("QuantisedLists$Samples", "count", "I", false)
def zty2 : Nat → FieldType := fun k => match k with
  | 0 => .array (.array .int)
  | _ => .int
theorem zin2 : ∀ w ∈ u_ws "QuantisedLists$Samples" zT2 2, w ∈ gtbl := zin [43, 45] (by decide +kernel)
theorem zok2 : ∀ k, k < 2 → parseFieldDescriptor (zT2 k).2.2.1 = some (zty2 k) := by decide +kernel
theorem znm2 : ∀ a, a < 2 → ∀ b, b < 2 → a ≠ b → (zT2 a).2.1 ≠ (zT2 b).2.1 := by decide +kernel
def zT3 : u_T := fun k => match k with
  | 0 => ("QuantisedLists$Clustering", "items", "[[I", true)
  | 1 => ("QuantisedLists$Clustering", "centres", "[[I", true)
  | 2 => ("QuantisedLists$Clustering", "sums", "[[I", true)
  | 3 => ("QuantisedLists$Clustering", "members", "[I", true)
  | 4 => ("QuantisedLists$Clustering", "shares", "[I", true)
  | 5 => ("QuantisedLists$Clustering", "size", "I", false)
  | 6 => ("QuantisedLists$Clustering", "from", "I", false)
  | 7 => ("QuantisedLists$Clustering", "width", "I", false)
  | _ => ("QuantisedLists$Clustering", "count", "I", false)
def zty3 : Nat → FieldType := fun k => match k with
  | 0 => .array (.array .int)
  | 1 => .array (.array .int)
  | 2 => .array (.array .int)
  | 3 => .array .int
  | 4 => .array .int
  | 5 => .int
  | 6 => .int
  | 7 => .int
  | _ => .int
theorem zin3 : ∀ w ∈ u_ws "QuantisedLists$Clustering" zT3 9, w ∈ gtbl := zin [66, 68, 70, 72, 74, 76, 78, 80, 82] (by decide +kernel)
theorem zok3 : ∀ k, k < 9 → parseFieldDescriptor (zT3 k).2.2.1 = some (zty3 k) := by decide +kernel
theorem znm3 : ∀ a, a < 9 → ∀ b, b < 9 → a ≠ b → (zT3 a).2.1 ≠ (zT3 b).2.1 := by decide +kernel
def zT4 : u_T := fun k => match k with
  | 0 => ("QuantisedLists$Quantiser", "centres", "[[I", true)
  | 1 => ("QuantisedLists$Quantiser", "words", "[[I", true)
  | 2 => ("QuantisedLists$Quantiser", "left", "[I", true)
  | 3 => ("QuantisedLists$Quantiser", "trained", "Z", false)
  | 4 => ("QuantisedLists$Quantiser", "kind", "I", false)
  | 5 => ("QuantisedLists$Quantiser", "lists", "I", false)
  | _ => ("QuantisedLists$Quantiser", "codes", "I", false)
def zty4 : Nat → FieldType := fun k => match k with
  | 0 => .array (.array .int)
  | 1 => .array (.array .int)
  | 2 => .array .int
  | 3 => .boolean
  | 4 => .int
  | 5 => .int
  | _ => .int
theorem zin4 : ∀ w ∈ u_ws "QuantisedLists$Quantiser" zT4 7, w ∈ gtbl := zin [105, 107, 109, 111, 113, 115, 117] (by decide +kernel)
theorem zok4 : ∀ k, k < 7 → parseFieldDescriptor (zT4 k).2.2.1 = some (zty4 k) := by decide +kernel
theorem znm4 : ∀ a, a < 7 → ∀ b, b < 7 → a ≠ b → (zT4 a).2.1 ≠ (zT4 b).2.1 := by decide +kernel
def zT5 : u_T := fun k => match k with
  | 0 => ("QuantisedLists$EntryTable", "rows", "[LQuantisedLists$Entry;", true)
  | _ => ("QuantisedLists$EntryTable", "count", "I", false)
def zty5 : Nat → FieldType := fun k => match k with
  | 0 => .array (.object "QuantisedLists$Entry")
  | _ => .int
theorem zin5 : ∀ w ∈ u_ws "QuantisedLists$EntryTable" zT5 2, w ∈ gtbl := zin [165, 167] (by decide +kernel)
theorem zok5 : ∀ k, k < 2 → parseFieldDescriptor (zT5 k).2.2.1 = some (zty5 k) := by decide +kernel
theorem znm5 : ∀ a, a < 2 → ∀ b, b < 2 → a ≠ b → (zT5 a).2.1 ≠ (zT5 b).2.1 := by decide +kernel
def zT6 : u_T := fun k => match k with
  | 0 => ("QuantisedLists$Finder", "given", "[I", true)
  | 1 => ("QuantisedLists$Finder", "goal", "[I", true)
  | 2 => ("QuantisedLists$Finder", "places", "[I", true)
  | 3 => ("QuantisedLists$Finder", "distances", "[I", true)
  | 4 => ("QuantisedLists$Finder", "ids", "[I", true)
  | 5 => ("QuantisedLists$Finder", "probes", "I", false)
  | 6 => ("QuantisedLists$Finder", "refine", "I", false)
  | 7 => ("QuantisedLists$Finder", "looked", "I", false)
  | _ => ("QuantisedLists$Finder", "results", "I", false)
def zty6 : Nat → FieldType := fun k => match k with
  | 0 => .array .int
  | 1 => .array .int
  | 2 => .array .int
  | 3 => .array .int
  | 4 => .array .int
  | 5 => .int
  | 6 => .int
  | 7 => .int
  | _ => .int
theorem zin6 : ∀ w ∈ u_ws "QuantisedLists$Finder" zT6 9, w ∈ gtbl := zin [193, 195, 197, 199, 201, 203, 205, 207, 209] (by decide +kernel)
theorem zok6 : ∀ k, k < 9 → parseFieldDescriptor (zT6 k).2.2.1 = some (zty6 k) := by decide +kernel
theorem znm6 : ∀ a, a < 9 → ∀ b, b < 9 → a ≠ b → (zT6 a).2.1 ≠ (zT6 b).2.1 := by decide +kernel
def zT7 : u_T := fun k => match k with
  | 0 => ("QuantisedLists$ByteFile", "bytes", "[I", true)
  | _ => ("QuantisedLists$ByteFile", "length", "I", false)
def zty7 : Nat → FieldType := fun k => match k with
  | 0 => .array .int
  | _ => .int
theorem zin7 : ∀ w ∈ u_ws "QuantisedLists$ByteFile" zT7 2, w ∈ gtbl := zin [222, 224] (by decide +kernel)
theorem zok7 : ∀ k, k < 2 → parseFieldDescriptor (zT7 k).2.2.1 = some (zty7 k) := by decide +kernel
theorem znm7 : ∀ a, a < 2 → ∀ b, b < 2 → a ≠ b → (zT7 a).2.1 ≠ (zT7 b).2.1 := by decide +kernel
def zT8 : u_T := fun k => match k with
  | 0 => ("QuantisedListsModel", "t", "[I", true)
  | 1 => ("QuantisedListsModel", "samples", "[I", true)
  | 2 => ("QuantisedListsModel", "count", "I", false)
  | 3 => ("QuantisedListsModel", "trained", "Z", false)
  | 4 => ("QuantisedListsModel", "kind", "I", false)
  | 5 => ("QuantisedListsModel", "lists", "I", false)
  | 6 => ("QuantisedListsModel", "codes", "I", false)
  | 7 => ("QuantisedListsModel", "centres", "[I", true)
  | 8 => ("QuantisedListsModel", "words", "[I", true)
  | 9 => ("QuantisedListsModel", "present", "[Z", true)
  | 10 => ("QuantisedListsModel", "points", "[I", true)
  | 11 => ("QuantisedListsModel", "kept", "I", false)
  | 12 => ("QuantisedListsModel", "probes", "I", false)
  | 13 => ("QuantisedListsModel", "refine", "I", false)
  | 14 => ("QuantisedListsModel", "hits", "[I", true)
  | 15 => ("QuantisedListsModel", "fars", "[I", true)
  | 16 => ("QuantisedListsModel", "found", "I", false)
  | 17 => ("QuantisedListsModel", "looked", "I", false)
  | 18 => ("QuantisedListsModel", "file", "[I", true)
  | 19 => ("QuantisedListsModel", "length", "I", false)
  | 20 => ("QuantisedListsModel", "given", "[I", true)
  | 21 => ("QuantisedListsModel", "turned", "[I", true)
  | 22 => ("QuantisedListsModel", "left", "[I", true)
  | 23 => ("QuantisedListsModel", "sought", "[I", true)
  | 24 => ("QuantisedListsModel", "item", "[I", true)
  | 25 => ("QuantisedListsModel", "rest", "[I", true)
  | 26 => ("QuantisedListsModel", "middle", "[I", true)
  | 27 => ("QuantisedListsModel", "member", "[I", true)
  | 28 => ("QuantisedListsModel", "share", "[I", true)
  | 29 => ("QuantisedListsModel", "ids", "[I", true)
  | 30 => ("QuantisedListsModel", "key", "[I", true)
  | 31 => ("QuantisedListsModel", "exact", "[I", true)
  | _ => ("QuantisedListsModel", "taken", "[Z", true)
def zty8 : Nat → FieldType := fun k => match k with
  | 0 => .array .int
  | 1 => .array .int
  | 2 => .int
  | 3 => .boolean
  | 4 => .int
  | 5 => .int
  | 6 => .int
  | 7 => .array .int
  | 8 => .array .int
  | 9 => .array .boolean
  | 10 => .array .int
  | 11 => .int
  | 12 => .int
  | 13 => .int
  | 14 => .array .int
  | 15 => .array .int
  | 16 => .int
  | 17 => .int
  | 18 => .array .int
  | 19 => .int
  | 20 => .array .int
  | 21 => .array .int
  | 22 => .array .int
  | 23 => .array .int
  | 24 => .array .int
  | 25 => .array .int
  | 26 => .array .int
  | 27 => .array .int
  | 28 => .array .int
  | 29 => .array .int
  | 30 => .array .int
  | 31 => .array .int
  | _ => .array .boolean
theorem zin8 : ∀ w ∈ u_ws "QuantisedListsModel" zT8 33, w ∈ gtbl := zin [696, 698, 700, 702, 704, 706, 708, 710, 712, 714, 716, 718, 720, 722, 724, 726, 728, 730, 732, 734, 736, 738, 740, 742, 744, 746, 748, 750, 752, 754, 756, 758, 760] (by decide +kernel)
theorem zok8 : ∀ k, k < 33 → parseFieldDescriptor (zT8 k).2.2.1 = some (zty8 k) := by decide +kernel
theorem znm8 : ∀ a, a < 33 → ∀ b, b < 33 → a ≠ b → (zT8 a).2.1 ≠ (zT8 b).2.1 := by decide +kernel
def zT9 : u_T := fun k => match k with
  | 0 => ("QuantisedLists$Entry", "given", "[I", true)
  | 1 => ("QuantisedLists$Entry", "turned", "[I", true)
  | 2 => ("QuantisedLists$Entry", "code", "[I", true)
  | 3 => ("QuantisedLists$Entry", "id", "I", false)
  | _ => ("QuantisedLists$Entry", "list", "I", false)
def zty9 : Nat → FieldType := fun k => match k with
  | 0 => .array .int
  | 1 => .array .int
  | 2 => .array .int
  | 3 => .int
  | _ => .int
theorem zin9 : ∀ w ∈ u_ws "QuantisedLists$Entry" zT9 5, w ∈ gtbl := zin [148, 150, 152, 154, 156] (by decide +kernel)
theorem zok9 : ∀ k, k < 5 → parseFieldDescriptor (zT9 k).2.2.1 = some (zty9 k) := by decide +kernel
theorem znm9 : ∀ a, a < 5 → ∀ b, b < 5 → a ≠ b → (zT9 a).2.1 ≠ (zT9 b).2.1 := by decide +kernel
def zcl : List vw_C := [("QuantisedLists", zT0, 7), ("QuantisedLists$Turn", zT1, 1), ("QuantisedLists$Samples", zT2, 2), ("QuantisedLists$Clustering", zT3, 9), ("QuantisedLists$Quantiser", zT4, 7), ("QuantisedLists$EntryTable", zT5, 2), ("QuantisedLists$Finder", zT6, 9), ("QuantisedLists$ByteFile", zT7, 2), ("QuantisedListsModel", zT8, 33), ("QuantisedLists$Entry", zT9, 5)]
theorem zcf {ci : Nat} {C : String} {T : u_T} {N : Nat} (h : zcl[ci]? = some (C, T, N)) : (∀ w ∈ u_ws C T N, w ∈ gtbl) ∧ (∃ t0 : Nat → FieldType, ∀ k, k < N → parseFieldDescriptor (T k).2.2.1 = some (t0 k)) ∧ (∀ a, a < N → ∀ b, b < N → a ≠ b → (T a).2.1 ≠ (T b).2.1) := by
  match ci, h with
  | 0, h => cases h; exact ⟨zin0, ⟨zty0, zok0⟩, znm0⟩
  | 1, h => cases h; exact ⟨zin1, ⟨zty1, zok1⟩, znm1⟩
  | 2, h => cases h; exact ⟨zin2, ⟨zty2, zok2⟩, znm2⟩
  | 3, h => cases h; exact ⟨zin3, ⟨zty3, zok3⟩, znm3⟩
  | 4, h => cases h; exact ⟨zin4, ⟨zty4, zok4⟩, znm4⟩
  | 5, h => cases h; exact ⟨zin5, ⟨zty5, zok5⟩, znm5⟩
  | 6, h => cases h; exact ⟨zin6, ⟨zty6, zok6⟩, znm6⟩
  | 7, h => cases h; exact ⟨zin7, ⟨zty7, zok7⟩, znm7⟩
  | 8, h => cases h; exact ⟨zin8, ⟨zty8, zok8⟩, znm8⟩
  | 9, h => cases h; exact ⟨zin9, ⟨zty9, zok9⟩, znm9⟩
def FL (own : String) (idx ci k : Nat) : Prop := ∃ (C : String) (T : u_T) (N : Nat), zcl[ci]? = some (C, T, N) ∧ k < N ∧ (T k).1 = C ∧ (Cond.fieldLink own idx C (T k).2.1 (T k).2.2.1 ∈ gtbl ∨ ∃ host, Cond.fieldLinkNest own idx C (T k).2.1 (T k).2.2.1 host ∈ ntbl)
def FW (ci k : Nat) (ty : FieldType) : Prop := ∀ (C : String) (T : u_T) (N : Nat), zcl[ci]? = some (C, T, N) → (T k).2.2.2 = false ∧ parseFieldDescriptor (T k).2.2.1 = some ty
def MF (M : Mt) : Prop := Cond.code M.1 M.2.1 M.2.2.1 M.2.2.2.1 ∈ gtbl ∧ Cond.initialized M.1.cls ∈ gtbl ∧ M.1.cls ≠ "java/lang/invoke/MethodHandle" ∧ M.1.cls ≠ "java/lang/invoke/VarHandle" ∧ plainFor M.1 = true
def MV (M : Mt) : Prop := Cond.instanceMethod M.1 ∈ gtbl ∧ Cond.selects M.1.cls M.1 M.1 ∈ gtbl
def MS (M : Mt) : Prop := Cond.static M.1 ∈ gtbl
abbrev NP (M : Mt) (n : Nat) : Prop := (parseMethodDescriptor M.1.desc).map (fun d => d.parameters.length) = some n
def LK (own : String) (idx : Nat) (y : MethodName) : Prop := Cond.methodLink own idx y ∈ gtbl ∨ ∃ host, Cond.methodLinkNest own idx y host ∈ ntbl
def M_q_turn : Mt := (⟨"QuantisedLists", "turn", "(IIII)Z"⟩, prog_1_method_2_code, 5, some .boolean, 3, 65)
def M_t_allows : Mt := (⟨"QuantisedLists$Turn", "allows", "(IIII)Z"⟩, prog_9_method_2_code, 4, some .boolean, 2, 42)
def M_t_isStep : Mt := (⟨"QuantisedLists$Turn", "isStep", "(I)Z"⟩, prog_9_method_3_code, 1, some .boolean, 1, 22)
def M_q_isWithin : Mt := (⟨"QuantisedLists", "isWithin", "(III)Z"⟩, prog_1_method_35_code, 3, some .boolean, 0, 0)
def M_t_axisBit : Mt := (⟨"QuantisedLists$Turn", "axisBit", "(I)I"⟩, prog_9_method_4_code, 1, some .int, 1, 20)
def M_j_abs : Mt := (⟨"java/lang/Math", "abs", "(I)I"⟩, prog_12_method_59_code, 1, some .int, 0, 0)
def M_t_become : Mt := (⟨"QuantisedLists$Turn", "become", "(IIII)V"⟩, prog_9_method_5_code, 5, none, 1, 24)
def M_q_setPoint : Mt := (⟨"QuantisedLists", "setPoint", "([IIIII)V"⟩, prog_1_method_37_code, 5, none, 0, 0)
def M_q_sample : Mt := (⟨"QuantisedLists", "sample", "(IIII)Z"⟩, prog_1_method_3_code, 5, some .boolean, 2, 45)
def M_q_isBad : Mt := (⟨"QuantisedLists", "isBad", "(IIII)Z"⟩, prog_1_method_36_code, 4, some .boolean, 1, 22)
def M_q_train : Mt := (⟨"QuantisedLists", "train", "(IIII)I"⟩, prog_1_method_4_code, 5, some .int, 6, 150)
def M_z_become : Mt := (⟨"QuantisedLists$Quantiser", "become", "(III)V"⟩, prog_7_method_2_code, 4, none, 0, 0)
def M_q_learnCentres : Mt := (⟨"QuantisedLists", "learnCentres", "(I)V"⟩, prog_1_method_22_code, 3, none, 5, 127)
def M_t_apply : Mt := (⟨"QuantisedLists$Turn", "apply", "([I[I)V"⟩, prog_9_method_6_code, 5, none, 1, 20)
def M_c_cluster : Mt := (⟨"QuantisedLists$Clustering", "cluster", "(IIII)V"⟩, prog_3_method_2_code, 6, none, 4, 102)
def M_c_chooseCentres : Mt := (⟨"QuantisedLists$Clustering", "chooseCentres", "()V"⟩, prog_3_method_6_code, 2, none, 3, 81)
def M_c_beginCentre : Mt := (⟨"QuantisedLists$Clustering", "beginCentre", "(II)V"⟩, prog_3_method_7_code, 4, none, 0, 0)
def M_c_farthestItem : Mt := (⟨"QuantisedLists$Clustering", "farthestItem", "(I)I"⟩, prog_3_method_8_code, 7, some .int, 2, 55)
def M_q_nearestRow : Mt := (⟨"QuantisedLists", "nearestRow", "([[III[III)I"⟩, prog_1_method_43_code, 10, some .int, 1, 26)
def M_q_distance : Mt := (⟨"QuantisedLists", "distance", "([I[III)I"⟩, prog_1_method_42_code, 7, some .int, 0, 0)
def M_c_countMembers : Mt := (⟨"QuantisedLists$Clustering", "countMembers", "()V"⟩, prog_3_method_9_code, 4, none, 2, 55)
def M_c_moveToMeans : Mt := (⟨"QuantisedLists$Clustering", "moveToMeans", "()V"⟩, prog_3_method_10_code, 3, none, 1, 22)
def M_j_floorDiv : Mt := (⟨"java/lang/Math", "floorDiv", "(II)I"⟩, prog_12_method_47_code, 3, some .int, 0, 0)
def M_c_fillEmptyCentres : Mt := (⟨"QuantisedLists$Clustering", "fillEmptyCentres", "()V"⟩, prog_3_method_11_code, 2, none, 1, 23)
def M_c_greatestShare : Mt := (⟨"QuantisedLists$Clustering", "greatestShare", "()I"⟩, prog_3_method_12_code, 3, some .int, 0, 0)
def M_c_splitInto : Mt := (⟨"QuantisedLists$Clustering", "splitInto", "(II)V"⟩, prog_3_method_13_code, 4, none, 0, 0)
def M_c_giveCentres : Mt := (⟨"QuantisedLists$Clustering", "giveCentres", "([[II)V"⟩, prog_3_method_3_code, 5, none, 0, 0)
def M_q_keepWhatIsLeft : Mt := (⟨"QuantisedLists", "keepWhatIsLeft", "()V"⟩, prog_1_method_23_code, 3, none, 3, 76)
def M_z_nearestList : Mt := (⟨"QuantisedLists$Quantiser", "nearestList", "([I)I"⟩, prog_7_method_5_code, 2, some .int, 2, 55)
def M_q_subtract : Mt := (⟨"QuantisedLists", "subtract", "([I[I[I)V"⟩, prog_1_method_41_code, 4, none, 0, 0)
def M_q_learnWords : Mt := (⟨"QuantisedLists", "learnWords", "(I)V"⟩, prog_1_method_24_code, 4, none, 5, 127)
def M_q_partWidthOf : Mt := (⟨"QuantisedLists", "partWidthOf", "(I)I"⟩, prog_1_method_39_code, 1, some .int, 0, 0)
def M_q_partsOf : Mt := (⟨"QuantisedLists", "partsOf", "(I)I"⟩, prog_1_method_38_code, 1, some .int, 0, 0)
def M_q_wordRow : Mt := (⟨"QuantisedLists", "wordRow", "(II)I"⟩, prog_1_method_40_code, 2, some .int, 0, 0)
def M_c_least : Mt := (⟨"QuantisedLists$Clustering", "least", "(I)I"⟩, prog_3_method_4_code, 4, some .int, 1, 21)
def M_j_min : Mt := (⟨"java/lang/Math", "min", "(II)I"⟩, prog_12_method_69_code, 2, some .int, 0, 0)
def M_c_greatest : Mt := (⟨"QuantisedLists$Clustering", "greatest", "(I)I"⟩, prog_3_method_5_code, 4, some .int, 1, 21)
def M_j_max : Mt := (⟨"java/lang/Math", "max", "(II)I"⟩, prog_12_method_65_code, 2, some .int, 0, 0)
def M_z_spreadWords : Mt := (⟨"QuantisedLists$Quantiser", "spreadWords", "(III)V"⟩, prog_7_method_8_code, 5, none, 1, 21)
def M_q_trainingError : Mt := (⟨"QuantisedLists", "trainingError", "()I"⟩, prog_1_method_25_code, 5, some .int, 3, 78)
def M_z_nearestWord : Mt := (⟨"QuantisedLists$Quantiser", "nearestWord", "(I[I)I"⟩, prog_7_method_6_code, 4, some .int, 2, 55)
def M_z_wordDistance : Mt := (⟨"QuantisedLists$Quantiser", "wordDistance", "(II[I)I"⟩, prog_7_method_7_code, 5, some .int, 1, 26)
def M_q_centre : Mt := (⟨"QuantisedLists", "centre", "(II)I"⟩, prog_1_method_5_code, 3, some .int, 2, 43)
def M_z_hasList : Mt := (⟨"QuantisedLists$Quantiser", "hasList", "(I)Z"⟩, prog_7_method_3_code, 2, some .boolean, 1, 22)
def M_q_word : Mt := (⟨"QuantisedLists", "word", "(III)I"⟩, prog_1_method_6_code, 4, some .int, 2, 44)
def M_z_hasWord : Mt := (⟨"QuantisedLists$Quantiser", "hasWord", "(II)Z"⟩, prog_7_method_4_code, 3, some .boolean, 1, 22)
def M_q_add : Mt := (⟨"QuantisedLists", "add", "(IIIII)I"⟩, prog_1_method_7_code, 6, some .int, 5, 126)
def M_b_placeOf : Mt := (⟨"QuantisedLists$EntryTable", "placeOf", "(I)I"⟩, prog_5_method_2_code, 3, some .int, 0, 0)
def M_q_putEntry : Mt := (⟨"QuantisedLists", "putEntry", "(IIIII)I"⟩, prog_1_method_26_code, 7, some .int, 4, 100)
def M_b_makeRoom : Mt := (⟨"QuantisedLists$EntryTable", "makeRoom", "(I)I"⟩, prog_5_method_4_code, 4, some .int, 0, 0)
def M_z_encode : Mt := (⟨"QuantisedLists$Quantiser", "encode", "(LQuantisedLists$Entry;)V"⟩, prog_7_method_9_code, 3, none, 3, 78)
def M_q_remove : Mt := (⟨"QuantisedLists", "remove", "(I)Z"⟩, prog_1_method_8_code, 3, some .boolean, 1, 23)
def M_b_drop : Mt := (⟨"QuantisedLists$EntryTable", "drop", "(I)V"⟩, prog_5_method_5_code, 4, none, 0, 0)
def M_q_listOf : Mt := (⟨"QuantisedLists", "listOf", "(I)I"⟩, prog_1_method_9_code, 3, some .int, 1, 22)
def M_q_codeOf : Mt := (⟨"QuantisedLists", "codeOf", "(I)I"⟩, prog_1_method_10_code, 3, some .int, 2, 44)
def M_z_codeAsNumber : Mt := (⟨"QuantisedLists$Quantiser", "codeAsNumber", "(LQuantisedLists$Entry;)I"⟩, prog_7_method_10_code, 5, some .int, 1, 20)
def M_q_entries : Mt := (⟨"QuantisedLists", "entries", "(I)I"⟩, prog_1_method_11_code, 2, some .int, 2, 43)
def M_b_countInList : Mt := (⟨"QuantisedLists$EntryTable", "countInList", "(I)I"⟩, prog_5_method_3_code, 4, some .int, 0, 0)
def M_q_effort : Mt := (⟨"QuantisedLists", "effort", "(II)Z"⟩, prog_1_method_12_code, 3, some .boolean, 1, 22)
def M_q_search : Mt := (⟨"QuantisedLists", "search", "(IIIII)I"⟩, prog_1_method_13_code, 6, some .int, 5, 122)
def M_f_find : Mt := (⟨"QuantisedLists$Finder", "find", "(LQuantisedLists$Quantiser;LQuantisedLists$EntryTable;I)V"⟩, prog_6_method_3_code, 5, none, 4, 98)
def M_f_lookThrough : Mt := (⟨"QuantisedLists$Finder", "lookThrough", "(LQuantisedLists$Quantiser;LQuantisedLists$EntryTable;)V"⟩, prog_6_method_4_code, 5, none, 3, 74)
def M_z_listsBefore : Mt := (⟨"QuantisedLists$Quantiser", "listsBefore", "(I[I)I"⟩, prog_7_method_12_code, 7, some .int, 1, 26)
def M_z_codeDistance : Mt := (⟨"QuantisedLists$Quantiser", "codeDistance", "([ILQuantisedLists$Entry;)I"⟩, prog_7_method_11_code, 5, some .int, 2, 50)
def M_f_sort : Mt := (⟨"QuantisedLists$Finder", "sort", "(I)V"⟩, prog_6_method_6_code, 6, none, 1, 23)
def M_f_isBefore : Mt := (⟨"QuantisedLists$Finder", "isBefore", "(III)Z"⟩, prog_6_method_7_code, 4, some .boolean, 0, 0)
def M_f_measure : Mt := (⟨"QuantisedLists$Finder", "measure", "(LQuantisedLists$EntryTable;I)V"⟩, prog_6_method_5_code, 4, none, 1, 26)
def M_f_keepIds : Mt := (⟨"QuantisedLists$Finder", "keepIds", "(LQuantisedLists$EntryTable;)V"⟩, prog_6_method_8_code, 3, none, 0, 0)
def M_q_hit : Mt := (⟨"QuantisedLists", "hit", "(I)I"⟩, prog_1_method_14_code, 2, some .int, 2, 43)
def M_f_hasResult : Mt := (⟨"QuantisedLists$Finder", "hasResult", "(I)Z"⟩, prog_6_method_2_code, 2, some .boolean, 1, 22)
def M_q_far : Mt := (⟨"QuantisedLists", "far", "(I)I"⟩, prog_1_method_15_code, 2, some .int, 2, 43)
def M_q_scanned : Mt := (⟨"QuantisedLists", "scanned", "()I"⟩, prog_1_method_16_code, 1, some .int, 0, 0)
def M_q_save : Mt := (⟨"QuantisedLists", "save", "()I"⟩, prog_1_method_17_code, 1, some .int, 3, 65)
def M_q_writeHead : Mt := (⟨"QuantisedLists", "writeHead", "()V"⟩, prog_1_method_27_code, 2, none, 1, 21)
def M_y_put : Mt := (⟨"QuantisedLists$ByteFile", "put", "(I)V"⟩, prog_2_method_2_code, 2, none, 0, 0)
def M_q_writeCentres : Mt := (⟨"QuantisedLists", "writeCentres", "()V"⟩, prog_1_method_28_code, 3, none, 2, 42)
def M_y_putPair : Mt := (⟨"QuantisedLists$ByteFile", "putPair", "(I)V"⟩, prog_2_method_3_code, 2, none, 1, 21)
def M_q_writeWords : Mt := (⟨"QuantisedLists", "writeWords", "()V"⟩, prog_1_method_29_code, 4, none, 2, 42)
def M_q_writeEntries : Mt := (⟨"QuantisedLists", "writeEntries", "()V"⟩, prog_1_method_30_code, 4, none, 2, 42)
def M_y_checkOf : Mt := (⟨"QuantisedLists$ByteFile", "checkOf", "(I)I"⟩, prog_2_method_4_code, 4, some .int, 0, 0)
def M_q_alter : Mt := (⟨"QuantisedLists", "alter", "(II)Z"⟩, prog_1_method_18_code, 3, some .boolean, 1, 22)
def M_q_cut : Mt := (⟨"QuantisedLists", "cut", "(I)Z"⟩, prog_1_method_19_code, 2, some .boolean, 1, 22)
def M_q_byteAt : Mt := (⟨"QuantisedLists", "byteAt", "(I)I"⟩, prog_1_method_20_code, 2, some .int, 1, 22)
def M_q_load : Mt := (⟨"QuantisedLists", "load", "()I"⟩, prog_1_method_21_code, 2, some .int, 6, 147)
def M_y_fault : Mt := (⟨"QuantisedLists$ByteFile", "fault", "()I"⟩, prog_2_method_9_code, 1, some .int, 5, 109)
def M_y_hasSizes : Mt := (⟨"QuantisedLists$ByteFile", "hasSizes", "()Z"⟩, prog_2_method_10_code, 1, some .boolean, 1, 22)
def M_y_step : Mt := (⟨"QuantisedLists$ByteFile", "step", "(I)I"⟩, prog_2_method_5_code, 2, some .int, 0, 0)
def M_y_entryStart : Mt := (⟨"QuantisedLists$ByteFile", "entryStart", "(I)I"⟩, prog_2_method_12_code, 2, some .int, 1, 21)
def M_y_wideCount : Mt := (⟨"QuantisedLists$ByteFile", "wideCount", "()I"⟩, prog_2_method_11_code, 2, some .int, 0, 0)
def M_y_hasWides : Mt := (⟨"QuantisedLists$ByteFile", "hasWides", "()Z"⟩, prog_2_method_14_code, 2, some .boolean, 2, 42)
def M_y_wide : Mt := (⟨"QuantisedLists$ByteFile", "wide", "(I)I"⟩, prog_2_method_6_code, 2, some .int, 1, 21)
def M_y_pairAt : Mt := (⟨"QuantisedLists$ByteFile", "pairAt", "(I)I"⟩, prog_2_method_13_code, 2, some .int, 0, 0)
def M_y_hasEntries : Mt := (⟨"QuantisedLists$ByteFile", "hasEntries", "()Z"⟩, prog_2_method_15_code, 4, some .boolean, 4, 86)
def M_y_entryId : Mt := (⟨"QuantisedLists$ByteFile", "entryId", "(I)I"⟩, prog_2_method_7_code, 2, some .int, 2, 42)
def M_y_hasPoint : Mt := (⟨"QuantisedLists$ByteFile", "hasPoint", "(I)Z"⟩, prog_2_method_16_code, 3, some .boolean, 3, 64)
def M_y_entryCoordinate : Mt := (⟨"QuantisedLists$ByteFile", "entryCoordinate", "(II)I"⟩, prog_2_method_8_code, 3, some .int, 2, 42)
def M_q_readHead : Mt := (⟨"QuantisedLists", "readHead", "()V"⟩, prog_1_method_31_code, 1, none, 2, 48)
def M_q_readCentres : Mt := (⟨"QuantisedLists", "readCentres", "()V"⟩, prog_1_method_32_code, 3, none, 2, 42)
def M_q_readWords : Mt := (⟨"QuantisedLists", "readWords", "()V"⟩, prog_1_method_33_code, 5, none, 2, 42)
def M_q_readEntries : Mt := (⟨"QuantisedLists", "readEntries", "()V"⟩, prog_1_method_34_code, 2, none, 5, 126)
def M_m_turn : Mt := (⟨"QuantisedListsModel", "turn", "(IIII)Z"⟩, prog_11_method_8_code, 5, some .boolean, 2, 43)
def M_m_isTurn : Mt := (⟨"QuantisedListsModel", "isTurn", "(IIII)Z"⟩, prog_11_method_3_code, 4, some .boolean, 1, 20)
def M_m_bit : Mt := (⟨"QuantisedListsModel", "bit", "(I)I"⟩, prog_11_method_2_code, 1, some .int, 0, 0)
def M_m_sample : Mt := (⟨"QuantisedListsModel", "sample", "(IIII)Z"⟩, prog_11_method_9_code, 6, some .boolean, 2, 46)
def M_m_give : Mt := (⟨"QuantisedListsModel", "give", "(IIII)Z"⟩, prog_11_method_5_code, 5, some .boolean, 1, 22)
def M_m_within : Mt := (⟨"QuantisedListsModel", "within", "(III)Z"⟩, prog_11_method_4_code, 3, some .boolean, 0, 0)
def M_m_train : Mt := (⟨"QuantisedListsModel", "train", "(IIII)I"⟩, prog_11_method_19_code, 8, some .int, 4, 103)
def M_m_turnIt : Mt := (⟨"QuantisedListsModel", "turnIt", "()V"⟩, prog_11_method_6_code, 2, none, 0, 0)
def M_m_cluster : Mt := (⟨"QuantisedListsModel", "cluster", "(III)V"⟩, prog_11_method_13_code, 10, none, 2, 51)
def M_m_nearest : Mt := (⟨"QuantisedListsModel", "nearest", "(III)I"⟩, prog_11_method_12_code, 6, some .int, 1, 26)
def M_m_gap : Mt := (⟨"QuantisedListsModel", "gap", "(III)I"⟩, prog_11_method_11_code, 7, some .int, 0, 0)
def M_m_mean : Mt := (⟨"QuantisedListsModel", "mean", "(II)V"⟩, prog_11_method_14_code, 7, none, 1, 22)
def M_m_floor : Mt := (⟨"QuantisedListsModel", "floor", "(II)I"⟩, prog_11_method_10_code, 3, some .int, 0, 0)
def M_m_fill : Mt := (⟨"QuantisedListsModel", "fill", "(II)V"⟩, prog_11_method_16_code, 6, none, 1, 22)
def M_m_hasMember : Mt := (⟨"QuantisedListsModel", "hasMember", "(I)Z"⟩, prog_11_method_15_code, 3, some .boolean, 0, 0)
def M_m_parts : Mt := (⟨"QuantisedListsModel", "parts", "()I"⟩, prog_11_method_17_code, 1, some .int, 0, 0)
def M_m_learn : Mt := (⟨"QuantisedListsModel", "learn", "(II)V"⟩, prog_11_method_20_code, 4, none, 3, 80)
def M_m_spread : Mt := (⟨"QuantisedListsModel", "spread", "(I)V"⟩, prog_11_method_21_code, 6, none, 0, 0)
def M_m_loss : Mt := (⟨"QuantisedListsModel", "loss", "()I"⟩, prog_11_method_22_code, 5, some .int, 3, 69)
def M_m_nearestWord : Mt := (⟨"QuantisedListsModel", "nearestWord", "(I)I"⟩, prog_11_method_24_code, 5, some .int, 2, 45)
def M_m_wordGap : Mt := (⟨"QuantisedListsModel", "wordGap", "(II)I"⟩, prog_11_method_23_code, 6, some .int, 1, 20)
def M_m_size : Mt := (⟨"QuantisedListsModel", "size", "()I"⟩, prog_11_method_18_code, 1, some .int, 0, 0)
def M_m_centre : Mt := (⟨"QuantisedListsModel", "centre", "(II)I"⟩, prog_11_method_25_code, 3, some .int, 1, 22)
def M_m_word : Mt := (⟨"QuantisedListsModel", "word", "(III)I"⟩, prog_11_method_26_code, 5, some .int, 1, 22)
def M_m_add : Mt := (⟨"QuantisedListsModel", "add", "(IIIII)I"⟩, prog_11_method_29_code, 9, some .int, 2, 47)
def M_m_listNow : Mt := (⟨"QuantisedListsModel", "listNow", "()I"⟩, prog_11_method_28_code, 4, some .int, 1, 24)
def M_m_away : Mt := (⟨"QuantisedListsModel", "away", "(I)I"⟩, prog_11_method_27_code, 5, some .int, 0, 0)
def M_m_remove : Mt := (⟨"QuantisedListsModel", "remove", "(I)Z"⟩, prog_11_method_31_code, 2, some .boolean, 2, 43)
def M_m_there : Mt := (⟨"QuantisedListsModel", "there", "(I)Z"⟩, prog_11_method_30_code, 2, some .boolean, 1, 22)
def M_m_listOf : Mt := (⟨"QuantisedListsModel", "listOf", "(I)I"⟩, prog_11_method_32_code, 2, some .int, 2, 47)
def M_m_turnEntry : Mt := (⟨"QuantisedListsModel", "turnEntry", "(I)V"⟩, prog_11_method_7_code, 3, none, 1, 21)
def M_m_codeOf : Mt := (⟨"QuantisedListsModel", "codeOf", "(I)I"⟩, prog_11_method_34_code, 6, some .int, 3, 69)
def M_m_leave : Mt := (⟨"QuantisedListsModel", "leave", "(I)V"⟩, prog_11_method_33_code, 3, none, 0, 0)
def M_m_entries : Mt := (⟨"QuantisedListsModel", "entries", "(I)I"⟩, prog_11_method_35_code, 4, some .int, 2, 47)
def M_m_effort : Mt := (⟨"QuantisedListsModel", "effort", "(II)Z"⟩, prog_11_method_36_code, 3, some .boolean, 1, 22)
def M_m_search : Mt := (⟨"QuantisedListsModel", "search", "(IIIII)I"⟩, prog_11_method_38_code, 10, some .int, 4, 96)
def M_m_measure : Mt := (⟨"QuantisedListsModel", "measure", "(I)V"⟩, prog_11_method_39_code, 8, none, 3, 69)
def M_m_probed : Mt := (⟨"QuantisedListsModel", "probed", "(I)Z"⟩, prog_11_method_37_code, 6, some .boolean, 1, 24)
def M_m_rank : Mt := (⟨"QuantisedListsModel", "rank", "(I)I"⟩, prog_11_method_40_code, 4, some .int, 0, 0)
def M_m_exactRank : Mt := (⟨"QuantisedListsModel", "exactRank", "(I)I"⟩, prog_11_method_41_code, 4, some .int, 0, 0)
def M_m_hit : Mt := (⟨"QuantisedListsModel", "hit", "(I)I"⟩, prog_11_method_42_code, 2, some .int, 1, 22)
def M_m_far : Mt := (⟨"QuantisedListsModel", "far", "(I)I"⟩, prog_11_method_43_code, 2, some .int, 1, 22)
def M_m_scanned : Mt := (⟨"QuantisedListsModel", "scanned", "()I"⟩, prog_11_method_44_code, 1, some .int, 0, 0)
def M_m_save : Mt := (⟨"QuantisedListsModel", "save", "()I"⟩, prog_11_method_48_code, 4, some .int, 2, 42)
def M_m_put : Mt := (⟨"QuantisedListsModel", "put", "(I)V"⟩, prog_11_method_45_code, 2, none, 0, 0)
def M_m_putTwo : Mt := (⟨"QuantisedListsModel", "putTwo", "(I)V"⟩, prog_11_method_46_code, 2, none, 1, 21)
def M_m_sum : Mt := (⟨"QuantisedListsModel", "sum", "(I)I"⟩, prog_11_method_47_code, 4, some .int, 0, 0)
def M_m_alter : Mt := (⟨"QuantisedListsModel", "alter", "(II)Z"⟩, prog_11_method_49_code, 3, some .boolean, 1, 22)
def M_m_cut : Mt := (⟨"QuantisedListsModel", "cut", "(I)Z"⟩, prog_11_method_50_code, 2, some .boolean, 1, 22)
def M_m_byteAt : Mt := (⟨"QuantisedListsModel", "byteAt", "(I)I"⟩, prog_11_method_51_code, 2, some .int, 1, 22)
def M_m_load : Mt := (⟨"QuantisedListsModel", "load", "()I"⟩, prog_11_method_55_code, 7, some .int, 3, 69)
def M_m_fault : Mt := (⟨"QuantisedListsModel", "fault", "()I"⟩, prog_11_method_54_code, 7, some .int, 2, 43)
def M_m_head : Mt := (⟨"QuantisedListsModel", "head", "()I"⟩, prog_11_method_53_code, 2, some .int, 0, 0)
def M_m_two : Mt := (⟨"QuantisedListsModel", "two", "(I)I"⟩, prog_11_method_52_code, 2, some .int, 0, 0)
end
section
/-! The flat picture: every object and array of the class and of the reference has a number (its code), 0 to 203; kd says what it is, ln how long, fref which of its fields are references that never change, gbase where the rows of a grid begin. A state S is: an int for each (code, place), and the order of the entry rows. -/
abbrev St : Type := (Nat → Nat → Int32) × (Nat → Nat)
def kd (c : Nat) : Nat := if c < 9 then 4 + c else if c = 10 ∨ c = 11 ∨ c = 12 ∨ c = 13 ∨ c = 16 ∨ c = 17 then 2 else if c = 19 then 3 else if c = 30 ∨ c = 47 then 1 else if 124 ≤ c ∧ c < 144 then 13 else 0
def lnT : List Nat := [0, 0, 0, 0, 0, 0, 0, 0, 0, 4, 24, 24, 4, 4, 4, 4, 4, 16, 4, 20, 4, 4, 20, 20, 20, 250, 4, 96, 16, 32, 1000, 4000, 8, 8, 250, 4, 4, 4, 4, 96, 96, 16, 24, 4, 20, 20, 20, 20]
def ln (c : Nat) : Nat := if c < 48 then lnT.getD c 0 else if 108 ≤ c ∧ c < 124 then 2 else 4
def gbase (c : Nat) : Nat := if c = 10 then 48 else if c = 11 then 72 else if c = 12 then 96 else if c = 13 then 100 else if c = 16 then 104 else 108
def frT : List (List (Option Nat)) := [[some 1, some 2, some 3, some 4, some 5, some 6, some 7], [some 9], [some 10, none], [some 11, some 12, some 13, some 14, some 15, none, none, none, none], [some 16, some 17, some 18, none, none, none, none], [some 19, none], [some 20, some 21, some 22, some 23, some 24, none, none, none, none], [some 25, none], [some 26, some 27, none, none, none, none, none, some 28, some 29, some 30, some 31, none, none, none, some 32, some 33, none, none, some 34, none, some 35, some 36, some 37, some 38, some 39, some 40, some 41, some 42, some 43, some 44, some 45, some 46, some 47]]
def fref (c k : Nat) : Option Nat := if c < 9 then (frT.getD c []).getD k none else if k < 3 then some (c + 20 + 20 * k) else none
def nfT : List Nat := [7, 1, 2, 9, 7, 2, 9, 2, 33, 5]
abbrev Lay : Type := va_G × (Nat → ClassId) × (Nat → Nat)
def fvl (ad : Nat → Nat) (S : St) (c k : Nat) : Value := match fref c k with
  | some d => .ref (ad d)
  | none => .int (S.1 c k)
def cel (Y : Lay) (S : St) (c : Nat) : va_E :=
  if kd c = 0 then .inl (Y.2.1 0, ln c, .inl (S.1 c))
  else if kd c = 1 then .inl (Y.2.1 1, ln c, .inl (S.1 c))
  else if kd c = 2 then .inl (Y.2.1 2, ln c, .inr (.inr (.inr (.inr (fun i => some (Y.2.2 (gbase c + i)))))))
  else if kd c = 3 then .inl (Y.2.1 3, ln c, .inr (.inr (.inr (.inr (fun i => some (Y.2.2 (S.2 i)))))))
  else .inr (kd c - 4, (List.range (nfT.getD (kd c - 4) 0)).map (fvl Y.2.2 S c))
def wsf (Y : Lay) (S : St) : va_W := (List.range 204).map (fun c => (Y.2.2 c, cel Y S c))
def ztys (Y : Lay) : List (ClassId × FieldType) := [(Y.2.1 0, .int), (Y.2.1 1, .boolean), (Y.2.1 2, .array .int), (Y.2.1 3, .object "QuantisedLists$Entry")]
def okY (Y : Lay) : Prop := ∀ c d : Nat, c < 204 → d < 204 → Y.2.2 c = Y.2.2 d → c = d
def AA (ad : Nat → Nat) : Nat → Prop := fun q => ∃ c, c < 204 ∧ ad c = q
def tr (ad : Nat → Nat) : Value → Value
  | .ref c => .ref (ad c)
  | v => v
def up2 (f : Nat → Nat → Int32) (c i : Nat) (v : Int32) : Nat → Nat → Int32 := fun c' i' => if c' = c ∧ i' = i then v else f c' i'
theorem wsf_at {Y : Lay} {S : St} {c : Nat} (h : c < 204) : (wsf Y S)[c]? = some (Y.2.2 c, cel Y S c) := by
  unfold wsf
  rw [List.getElem?_map, List.getElem?_range h]
  rfl
theorem wsf_some {Y : Lay} {S : St} {k : Nat} {q : Nat × va_E} (h : (wsf Y S)[k]? = some q) : k < 204 ∧ q = (Y.2.2 k, cel Y S k) := by
  by_cases hk : k < 204
  · rw [wsf_at hk] at h
    exact ⟨hk, (Option.some.inj h).symm⟩
  · unfold wsf at h
    rw [List.getElem?_map, List.getElem?_eq_none (by rw [List.length_range]; omega)] at h
    cases h
theorem wsf_D {Y : Lay} (hY : okY Y) (S : St) : va_D (AA Y.2.2) (wsf Y S) := by
  refine ⟨fun i j p q hi hj hpq => ?_, fun k q hk => ?_⟩
  · obtain ⟨h1, rfl⟩ := wsf_some hi
    obtain ⟨h2, rfl⟩ := wsf_some hj
    exact hY _ _ h1 h2 hpq
  · obtain ⟨h1, rfl⟩ := wsf_some hk
    exact ⟨k, h1, rfl⟩
/-- a write at one code -/
theorem wsf_set {Y : Lay} {S S' : St} {c : Nat} (h : ∀ d, d ≠ c → cel Y S' d = cel Y S d) : (wsf Y S).set c (Y.2.2 c, cel Y S' c) = wsf Y S' := by
  apply List.ext_getElem?
  intro k
  by_cases hk : k = c
  · subst hk
    by_cases hl : k < 204
    · rw [List.getElem?_set_self (by unfold wsf; rw [List.length_map, List.length_range]; exact hl), wsf_at hl]
    · rw [List.getElem?_eq_none (by unfold wsf; rw [List.length_set, List.length_map, List.length_range]; omega), List.getElem?_eq_none (by unfold wsf; rw [List.length_map, List.length_range]; omega)]
  · rw [List.getElem?_set_ne (Ne.symm hk)]
    by_cases hl : k < 204
    · rw [wsf_at hl, wsf_at hl, h k hk]
    · rw [List.getElem?_eq_none (by unfold wsf; rw [List.length_map, List.length_range]; omega), List.getElem?_eq_none (by unfold wsf; rw [List.length_map, List.length_range]; omega)]
theorem up2_same {f : Nat → Nat → Int32} {c i : Nat} {v : Int32} : up2 f c i v c i = v := by simp [up2]
theorem up2_ne {f : Nat → Nat → Int32} {c i c' i' : Nat} {v : Int32} (h : ¬ (c' = c ∧ i' = i)) : up2 f c i v c' i' = f c' i' := by simp [up2, h]
theorem up2_row {f : Nat → Nat → Int32} {c i d : Nat} {v : Int32} (h : d ≠ c) : up2 f c i v d = f d := by funext j; simp [up2, h]
theorem up2_upd {f : Nat → Nat → Int32} {c i : Nat} {v : Int32} : up2 f c i v c = upd (f c) i v := by
  funext j
  by_cases h : j = i
  · subst h; rw [pk_us]; exact up2_same
  · rw [pk_un h]; exact up2_ne (fun q => h q.2)
theorem cel_up2 {Y : Lay} {S : St} {c i d : Nat} {v : Int32} (h : d ≠ c) : cel Y (up2 S.1 c i v, S.2) d = cel Y S d := by
  have e : fvl Y.2.2 (up2 S.1 c i v, S.2) d = fvl Y.2.2 S d := by
    funext k
    unfold fvl
    cases fref d k with
    | some _ => rfl
    | none => show Value.int (up2 S.1 c i v d k) = _; rw [up2_row h]
  unfold cel
  rw [e]
  show (if kd d = 0 then _ else _) = _
  rw [show (up2 S.1 c i v, S.2).1 d = S.1 d from up2_row h]
/-- the locals: an unset one is .null here -/
def LR (ad : Nat → Nat) (L : List Value) (nL : Nat) (ls : Array Slot) : Prop := L.length = nL ∧ ls.size = nL ∧ lv_wf ls ∧ (∀ (i : Nat) (y : Int32), L[i]? = some (.int y) → ls[i]? = some (.val (.int y))) ∧ ∀ (i a : Nat), L[i]? = some (.ref a) → ls[i]? = some (.val (.ref (ad a)))
def lvo (ad : Nat → Nat) (L : List Value) : List (Nat × Value) := (List.range L.length).filterMap (fun i : Nat => match (L[i]? : Option Value) with
  | some (Value.int y) => some (i, Value.int y)
  | some (Value.ref a) => some (i, Value.ref (ad a))
  | _ => none)
theorem lvo_int {ad : Nat → Nat} {L : List Value} {i : Nat} {y : Int32} (h : L[i]? = some (.int y)) : (i, Value.int y) ∈ lvo ad L := by
  refine List.mem_filterMap.mpr ⟨i, List.mem_range.mpr (List.getElem?_eq_some_iff.mp h).1, ?_⟩
  rw [h]
theorem lvo_ref {ad : Nat → Nat} {L : List Value} {i a : Nat} (h : L[i]? = some (.ref a)) : (i, Value.ref (ad a)) ∈ lvo ad L := by
  refine List.mem_filterMap.mpr ⟨i, List.mem_range.mpr (List.getElem?_eq_some_iff.mp h).1, ?_⟩
  rw [h]
theorem LR.has {ad : Nat → Nat} {L : List Value} {nL : Nat} {ls : Array Slot} (h : LR ad L nL ls) : lv_has ls nL (lvo ad L) := by
  obtain ⟨h0, h1, h2, h3, h4⟩ := h
  refine ⟨h1, h2, fun q hq => ?_⟩
  obtain ⟨i, -, hi⟩ := List.mem_filterMap.mp hq
  cases hL : L[i]? with
  | none => rw [hL] at hi; cases hi
  | some v =>
    rw [hL] at hi
    cases v with
    | int y => cases hi; exact h3 i y hL
    | ref a => cases hi; exact h4 i a hL
    | long _ => cases hi
    | float _ => cases hi
    | double _ => cases hi
    | null => cases hi
    | retAddr _ => cases hi
theorem LR.of {ad : Nat → Nat} {L : List Value} {nL : Nat} {ls : Array Slot} {i : Nat} {v : Value} (hv : (∃ y, v = .int y) ∨ ∃ a, v = .ref a) {ls' : Array Slot} (h : LR ad L nL ls) (h' : lv_has ls' nL ((i, tr ad v) :: (lvo ad L).filter (fun q => !(q.1 == i) && !(q.1 + 1 == i && q.2.category == 2)))) (hi : i < nL) : LR ad (L.set i v) nL ls' := by
  obtain ⟨k1, k2, k3⟩ := h'
  refine ⟨by rw [List.length_set]; exact h.1, k1, k2, fun j y hj => ?_, fun j a hj => ?_⟩
  · by_cases hji : j = i
    · subst hji
      rw [List.getElem?_set_self (by rw [h.1]; exact hi)] at hj
      cases hj
      exact k3 (j, .int y) List.mem_cons_self
    · rw [List.getElem?_set_ne (Ne.symm hji)] at hj
      refine k3 (j, .int y) (List.mem_cons_of_mem _ (List.mem_filter.mpr ⟨lvo_int hj, ?_⟩))
      simp [hji, Value.category]
  · by_cases hji : j = i
    · subst hji
      rw [List.getElem?_set_self (by rw [h.1]; exact hi)] at hj
      cases hj
      exact k3 (j, .ref (ad a)) List.mem_cons_self
    · rw [List.getElem?_set_ne (Ne.symm hji)] at hj
      refine k3 (j, .ref (ad a)) (List.mem_cons_of_mem _ (List.mem_filter.mpr ⟨lvo_ref hj, ?_⟩))
      simp [hji, Value.category]
theorem ln_small (c : Nat) : ln c < 5000 := by
  unfold ln
  split
  · rename_i h
    have : ∀ c, c < 48 → lnT.getD c 0 < 5000 := by decide +kernel
    exact this c h
  · split <;> decide
/-! The two judgements of the flat machine: Ev (a method's run, by its contract at the machine) and Wp (the rest of a method's run from a pc). -/
def rmO (M : Mt) : Room := { frames := M.2.2.2.2.1, cells := 0, slots := 0, locals := M.2.2.2.2.2 }
def wsO (M : Mt) : List Cond := .code M.1 M.2.1 M.2.2.1 M.2.2.2.1 :: gtbl
def NW (U : State) : Prop := ∀ w ∈ ntbl, va_Nw w U
theorem NW.warm {s U : State} (hW : s.WarmedH U.vm) (h : NW s) : NW U := by
  intro w hw
  have h1 := h w hw
  have h2 := (List.mem_filter.mp hw).2
  cases w <;> first | exact va_Nw.warmF hW h1 | exact va_Nw.warmM hW h1 | (simp [isNest] at h2; done)
theorem isNest_on {w : Cond} (h : isNest w = true) : w.onTables = true := by
  cases w <;> first | rfl | (simp [isNest] at h; done)
theorem NW.same {u U : State} (hv : u.vm = U.vm) (h : NW u) : NW U := fun w hw => va_Nw.same (isNest_on (List.mem_filter.mp hw).2) hv (h w hw)
def QQ (Y : Lay) (Z : Option Value → St → Prop) : Array Value → State → Outcome → State → Prop := fun _ st oc t => (∃ (r : Option Value) (S' : St), oc = .returned (r.map (tr Y.2.2)) ∧ Z r S' ∧ va_P Y.1 zcl (wsf Y S') t.heap) ∧ va_F (AA Y.2.2) st t
def PPc (Y : Lay) (As : List Value) (S : St) : Array Value → State → Prop := va_Pc (As.map (tr Y.2.2)) (fun U => va_P Y.1 zcl (wsf Y S) U.heap ∧ va_K Y.1 zcl (ztys Y) U ∧ NW U)
def Ev (M : Mt) (As : List Value) (S : St) (Z : Option Value → St → Prop) : Prop := ∀ (l : Launch) (Y : Lay), okY Y → Met l M.1 (wsO M) (rmO M) (PPc Y As S) (QQ Y Z) 0 0 (AA Y.2.2)
def Fx (M : Mt) (p : Program) (s : State) (m : MethodId) (args : Array Value) (meth : Method) (c : Code) : Prop := p.tables.exec = Jvm.exec ∧ c.code = M.2.1 ∧ meth.sig.returnType = M.2.2.2.1 ∧ c.maxLocals = M.2.2.1 ∧ s.vm.findClass M.1.cls = some m.cls ∧ (∀ w ∈ wsO M, w.before args s = true) ∧ meth.locks = false ∧ NW s
def Wp (M : Mt) (pc : Nat) (L st : List Value) (S : St) (Z : Option Value → St → Prop) : Prop :=
  ∀ (l : Launch) (Y : Lay), okY Y → ∀ (p : Program) (e : Env) (s : State) (m : MethodId) (args : Array Value) (below : List Frame) (meth : Method) (c : Code), Fx M p s m args meth c → va_K Y.1 zcl (ztys Y) s → ∀ (ls : Array Slot) (H : Heap) (locs : List Loc), LR Y.2.2 L M.2.2.1 ls → va_P Y.1 zcl (wsf Y S) H → va_S (AA Y.2.2) s.heap H locs →
    W p l e (rmO M) s m args below meth c H locs 0 0 (MQ below (QQ Y Z) args s 0 0 (AA Y.2.2)) (F0 m pc ls (st.map (tr Y.2.2)))
theorem PPc_blind (Y : Lay) (As : List Value) (S : St) : FrameBlind (PPc Y As S) := by
  intro a U g mk q
  obtain ⟨q0, qP, qK, qN⟩ := q
  exact ⟨q0, qP, va_K.moved (u := U) (U := U.calling g mk a) (Vm.Alike.refl U.vm) qK, NW.same (u := U) (U := U.calling g mk a) rfl qN⟩
theorem tr_cat1 {ad : Nat → Nat} {v : Value} : (tr ad v).category = v.category := by cases v <;> rfl
theorem lg_sl1 : ∀ (vs : List Value), (∀ v ∈ vs, v.category = 1) → lg_sl vs = vs.map Slot.val
  | [], _ => rfl
  | v :: vs, h => by
    have h1 := h v List.mem_cons_self
    have h2 := lg_sl1 vs (fun w hw => h w (List.mem_cons_of_mem _ hw))
    unfold lg_sl at h2 ⊢
    rw [List.flatMap_cons, h2, if_neg (by omega)]
    rfl
theorem lv_args1 : ∀ (vs : List Value) (b i : Nat) (v : Value), (∀ v ∈ vs, v.category = 1) → vs[i]? = some v → (b + i, v) ∈ lv_args b vs
  | [], b, i, v, _, hi => by simp at hi
  | w :: vs, b, i, v, h, hi => by
    have h1 := h w List.mem_cons_self
    unfold lv_args
    rw [if_neg (by omega)]
    cases i with
    | zero => rw [List.getElem?_cons_zero] at hi; cases hi; exact List.mem_cons_self
    | succ i =>
      rw [List.getElem?_cons_succ] at hi
      have := lv_args1 vs (b + 1) i v (fun w hw => h w (List.mem_cons_of_mem _ hw)) hi
      rw [show b + (i + 1) = b + 1 + i by omega]
      exact List.mem_cons_of_mem _ this
theorem Met.ofWF {l : Launch} {y : MethodName} {ws ws' : List Cond} {rm : Room} {Pc : Array Value → State → Prop} {Qc : Array Value → State → Outcome → State → Prop} {mc ms : Nat} {free : Addr → Prop} {cc : ByteArray} {maxL : Nat} {ret : Option FieldType}
    (hy : plainFor y = true) (hw : ws = Cond.code y cc maxL ret :: ws')
    (body : ∀ p e s m args below meth c s₁, BodyLoose p l y (headSpec ws rm) cc maxL ret e s m args below meth c s₁ → c.maxLocals = maxL → Pc args s →
      W p l e (headSpec ws rm).room s m args below meth c s.heap [] 0 0 (MQ below Qc args s mc ms free) (entryFrame m args maxL)) : Met l y ws rm Pc Qc mc ms free := by
  refine MetFree.of_bodySF (code := cc) (maxLocals := maxL) (ret := ret) hy ?_ ?_
  · intro args s m h hn
    obtain ⟨meth, c, h1, h2, h3, h4, h5, h6, -, -⟩ := Cond.code_spec hn (atoms_spec (ws := ws) h _ (by rw [hw]; exact List.mem_cons_self))
    exact ⟨meth, c, h1, h2, h3, h4, h5, h6⟩
  · intro p e s m args below meth c s₁ B hml hP _
    have hh0 : s₁.heap = s.heap := by rw [B.state]; rfl
    obtain ⟨t, a1, o, b1, b2, b3⟩ := body p e s m args below meth c s₁ B hml hP s₁ hh0 (Stand.of_body B)
    exact ⟨t, o, a1, b1, b2, ⟨b3.1, b3.2⟩⟩
/-- a method's contract out of its walk -/
theorem Ev.of {M : Mt} {As : List Value} {S : St} {Z : Option Value → St → Prop} (hf : MF M) (hc : ∀ v ∈ As, v.category = 1) (hl : As.length ≤ M.2.2.1) (h : Wp M 0 (As ++ List.replicate (M.2.2.1 - As.length) .null) [] S Z) : Ev M As S Z := by
  intro l Y hY
  refine Met.ofWF (cc := M.2.1) (maxL := M.2.2.1) (ret := M.2.2.2.1) hf.2.2.2.2 rfl ?_
  intro p e s m args below meth c s₁ B hml hv
  obtain ⟨rfl, hP, hK, hN⟩ := hv
  have hts := atoms_spec (ws := wsO M) B.pre
  have hown : s.vm.findClass M.1.cls = some m.cls := findClass_of_methodNamed B.named
  have hca : ∀ v ∈ As.map (tr Y.2.2), v.category = 1 := by
    intro v hv
    obtain ⟨w, hw, rfl⟩ := List.mem_map.mp hv
    rw [tr_cat1]
    exact hc w hw
  have hlen : (lg_sl (As.map (tr Y.2.2))).length ≤ M.2.2.1 := by rw [lg_sl1 _ hca, List.length_map, List.length_map]; exact hl
  obtain ⟨k1, k2, k3⟩ := lv_entry (As.map (tr Y.2.2)) (n := M.2.2.1) hlen
  rw [lg_entry_eq]
  refine h l Y hY p e s m _ below meth c ⟨B.exec, B.bytes, B.returns, hml, hown, hts, B.notSynchronized, hN⟩ hK _ _ _ ⟨?_, k1, k2, fun i y hi => ?_, fun i a hi => ?_⟩ hP va_S.rf
  · rw [List.length_append, List.length_replicate]; omega
  · by_cases hil : i < As.length
    · rw [List.getElem?_append_left hil] at hi
      have h1 := lv_args1 (As.map (tr Y.2.2)) 0 i (.int y) hca (by rw [List.getElem?_map, hi]; rfl)
      rw [Nat.zero_add] at h1
      exact k3 _ h1
    · rw [List.getElem?_append_right (by omega)] at hi
      have := List.eq_of_mem_replicate (List.mem_of_getElem? hi)
      cases this
  · by_cases hil : i < As.length
    · rw [List.getElem?_append_left hil] at hi
      have h1 := lv_args1 (As.map (tr Y.2.2)) 0 i (.ref (Y.2.2 a)) hca (by rw [List.getElem?_map, hi]; rfl)
      rw [Nat.zero_add] at h1
      exact k3 _ h1
    · rw [List.getElem?_append_right (by omega)] at hi
      have := List.eq_of_mem_replicate (List.mem_of_getElem? hi)
      cases this
theorem Ev.mono {M : Mt} {As : List Value} {S : St} {Z Z' : Option Value → St → Prop} (h : Ev M As S Z) (hz : ∀ r S', Z r S' → Z' r S') : Ev M As S Z' := by
  intro l Y hY
  have h1 := h l Y hY
  unfold Met at h1 ⊢
  intro p e ha hc hk s m args below hf happ hpre hK
  obtain ⟨k, o, h1, h2, h3, ⟨⟨⟨r, S', q1, q2, q3⟩, qF⟩, hL⟩⟩ := h1 p e ha hc hk s m args below hf happ hpre hK
  exact ⟨k, o, h1, h2, h3, ⟨⟨r, S', q1, hz r S' q2, q3⟩, qF⟩, hL⟩
end
section
theorem w_iconst {M : Mt} {pc : Nat} {L st : List Value} {S : St} {Z : Option Value → St → Prop} {n : Int} {v : Int32} (hd : decode M.2.1 pc = .ok (.iconst n, 1)) (hv : Int32.ofInt n = v) (h : Wp M (pc + 1) L (.int v :: st) S Z) : Wp M pc L (st) S Z := by
  intro l Y hY p e s m args below meth c X hK ls H locs hL hP hS
  exact lv_iconst X.1 X.2.1 hd hv (h l Y hY p e s m args below meth c X hK ls H locs hL hP hS)
theorem w_bipush {M : Mt} {pc : Nat} {L st : List Value} {S : St} {Z : Option Value → St → Prop} {n : Int} {v : Int32} (hd : decode M.2.1 pc = .ok (.bipush n, 2)) (hv : (Int8.ofInt n).toInt32 = v) (h : Wp M (pc + 2) L (.int v :: st) S Z) : Wp M pc L (st) S Z := by
  intro l Y hY p e s m args below meth c X hK ls H locs hL hP hS
  exact lv_bipush X.1 X.2.1 hd hv (h l Y hY p e s m args below meth c X hK ls H locs hL hP hS)
theorem w_sipush {M : Mt} {pc : Nat} {L st : List Value} {S : St} {Z : Option Value → St → Prop} {n : Int} {v : Int32} (hd : decode M.2.1 pc = .ok (.sipush n, 3)) (hv : (Int16.ofInt n).toInt32 = v) (h : Wp M (pc + 3) L (.int v :: st) S Z) : Wp M pc L (st) S Z := by
  intro l Y hY p e s m args below meth c X hK ls H locs hL hP hS
  exact lv_sipush X.1 X.2.1 hd hv (h l Y hY p e s m args below meth c X hK ls H locs hL hP hS)
theorem w_iload_n {M : Mt} {pc : Nat} {L st : List Value} {S : St} {Z : Option Value → St → Prop} {k : Fin 4} {y : Int32} (hd : decode M.2.1 pc = .ok (.iload_n k, 1)) (hl : L[k.val]? = some (.int y)) (h : Wp M (pc + 1) L (.int y :: st) S Z) : Wp M pc L (st) S Z := by
  intro l Y hY p e s m args below meth c X hK ls H locs hL hP hS
  exact lv_iload_n X.1 X.2.1 hd rfl (hL.2.2.2.1 _ _ hl) (h l Y hY p e s m args below meth c X hK ls H locs hL hP hS)
theorem w_iload {M : Mt} {pc : Nat} {L st : List Value} {S : St} {Z : Option Value → St → Prop} {k : Nat} {y : Int32} (hd : decode M.2.1 pc = .ok (.iload k, 2)) (hl : L[k]? = some (.int y)) (h : Wp M (pc + 2) L (.int y :: st) S Z) : Wp M pc L (st) S Z := by
  intro l Y hY p e s m args below meth c X hK ls H locs hL hP hS
  exact lv_iload X.1 X.2.1 hd (hL.2.2.2.1 _ _ hl) (h l Y hY p e s m args below meth c X hK ls H locs hL hP hS)
theorem w_aload_n {M : Mt} {pc : Nat} {L st : List Value} {S : St} {Z : Option Value → St → Prop} {k : Fin 4} {a : Nat} (hd : decode M.2.1 pc = .ok (.aload_n k, 1)) (hl : L[k.val]? = some (.ref a)) (h : Wp M (pc + 1) L (.ref a :: st) S Z) : Wp M pc L (st) S Z := by
  intro l Y hY p e s m args below meth c X hK ls H locs hL hP hS
  exact lv_aload_n X.1 X.2.1 hd rfl (hL.2.2.2.2 _ _ hl) (h l Y hY p e s m args below meth c X hK ls H locs hL hP hS)
theorem w_aload {M : Mt} {pc : Nat} {L st : List Value} {S : St} {Z : Option Value → St → Prop} {k : Nat} {a : Nat} (hd : decode M.2.1 pc = .ok (.aload k, 2)) (hl : L[k]? = some (.ref a)) (h : Wp M (pc + 2) L (.ref a :: st) S Z) : Wp M pc L (st) S Z := by
  intro l Y hY p e s m args below meth c X hK ls H locs hL hP hS
  exact lv_aload X.1 X.2.1 hd (hL.2.2.2.2 _ _ hl) (h l Y hY p e s m args below meth c X hK ls H locs hL hP hS)
theorem w_istore_n {M : Mt} {pc : Nat} {L st : List Value} {S : St} {Z : Option Value → St → Prop} {k : Fin 4} {y : Int32} (hd : decode M.2.1 pc = .ok (.istore_n k, 1)) (hk : k.val < L.length) (h : Wp M (pc + 1) (L.set k.val (.int y)) st S Z) : Wp M pc L (.int y :: st) S Z := by
  intro l Y hY p e s m args below meth c X hK ls H locs hL hP hS
  exact lv_istore_n X.1 X.2.1 hd rfl hL.has (by rw [← hL.1]; exact hk) rfl (fun ls' hL' => (h l Y hY p e s m args below meth c X hK ls' H locs (LR.of (Or.inl ⟨_, rfl⟩) hL hL' (by rw [← hL.1]; exact hk)) hP hS))
theorem w_istore {M : Mt} {pc : Nat} {L st : List Value} {S : St} {Z : Option Value → St → Prop} {k : Nat} {y : Int32} (hd : decode M.2.1 pc = .ok (.istore k, 2)) (hk : k < L.length) (h : Wp M (pc + 2) (L.set k (.int y)) st S Z) : Wp M pc L (.int y :: st) S Z := by
  intro l Y hY p e s m args below meth c X hK ls H locs hL hP hS
  exact lv_istore X.1 X.2.1 hd hL.has (by rw [← hL.1]; exact hk) rfl (fun ls' hL' => (h l Y hY p e s m args below meth c X hK ls' H locs (LR.of (Or.inl ⟨_, rfl⟩) hL hL' (by rw [← hL.1]; exact hk)) hP hS))
theorem w_astore_n {M : Mt} {pc : Nat} {L st : List Value} {S : St} {Z : Option Value → St → Prop} {k : Fin 4} {a : Nat} (hd : decode M.2.1 pc = .ok (.astore_n k, 1)) (hk : k.val < L.length) (h : Wp M (pc + 1) (L.set k.val (.ref a)) st S Z) : Wp M pc L (.ref a :: st) S Z := by
  intro l Y hY p e s m args below meth c X hK ls H locs hL hP hS
  exact lv_astore_n X.1 X.2.1 hd rfl hL.has (by rw [← hL.1]; exact hk) rfl (fun ls' hL' => (h l Y hY p e s m args below meth c X hK ls' H locs (LR.of (Or.inr ⟨_, rfl⟩) hL hL' (by rw [← hL.1]; exact hk)) hP hS))
theorem w_astore {M : Mt} {pc : Nat} {L st : List Value} {S : St} {Z : Option Value → St → Prop} {k : Nat} {a : Nat} (hd : decode M.2.1 pc = .ok (.astore k, 2)) (hk : k < L.length) (h : Wp M (pc + 2) (L.set k (.ref a)) st S Z) : Wp M pc L (.ref a :: st) S Z := by
  intro l Y hY p e s m args below meth c X hK ls H locs hL hP hS
  exact lv_astore X.1 X.2.1 hd hL.has (by rw [← hL.1]; exact hk) rfl (fun ls' hL' => (h l Y hY p e s m args below meth c X hK ls' H locs (LR.of (Or.inr ⟨_, rfl⟩) hL hL' (by rw [← hL.1]; exact hk)) hP hS))
theorem w_iinc {M : Mt} {pc : Nat} {L st : List Value} {S : St} {Z : Option Value → St → Prop} {k : Nat} {n : Int} {y v : Int32} (hd : decode M.2.1 pc = .ok (.iinc k n, 3)) (hl : L[k]? = some (.int y)) (hv : y + Int32.ofInt n = v) (h : Wp M (pc + 3) (L.set k (.int v)) st S Z) : Wp M pc L st S Z := by
  intro l Y hY p e s m args below meth c X hK ls H locs hL hP hS
  have hk : k < L.length := (List.getElem?_eq_some_iff.mp hl).1
  obtain ⟨j, hj⟩ := List.getElem?_of_mem (lvo_int (ad := Y.2.2) hl)
  exact lv_iinc X.1 X.2.1 hd hL.has hj hv (by rw [← hL.1]; exact hk) rfl (fun ls' hL' => (h l Y hY p e s m args below meth c X hK ls' H locs (LR.of (Or.inl ⟨_, rfl⟩) hL hL' (by rw [← hL.1]; exact hk)) hP hS))
theorem w_iadd {M : Mt} {pc : Nat} {L st : List Value} {S : St} {Z : Option Value → St → Prop} {x1 y : Int32} (hd : decode M.2.1 pc = .ok (.iadd, 1)) (h : Wp M (pc + 1) L (.int (x1 + y) :: st) S Z) : Wp M pc L (.int y :: .int x1 :: st) S Z := by
  intro l Y hY p e s m args below meth c X hK ls H locs hL hP hS
  exact lv_iadd X.1 X.2.1 hd (h l Y hY p e s m args below meth c X hK ls H locs hL hP hS)
theorem w_isub {M : Mt} {pc : Nat} {L st : List Value} {S : St} {Z : Option Value → St → Prop} {x1 y : Int32} (hd : decode M.2.1 pc = .ok (.isub, 1)) (h : Wp M (pc + 1) L (.int (x1 - y) :: st) S Z) : Wp M pc L (.int y :: .int x1 :: st) S Z := by
  intro l Y hY p e s m args below meth c X hK ls H locs hL hP hS
  exact lv_isub X.1 X.2.1 hd (h l Y hY p e s m args below meth c X hK ls H locs hL hP hS)
theorem w_imul {M : Mt} {pc : Nat} {L st : List Value} {S : St} {Z : Option Value → St → Prop} {x1 y : Int32} (hd : decode M.2.1 pc = .ok (.imul, 1)) (h : Wp M (pc + 1) L (.int (x1 * y) :: st) S Z) : Wp M pc L (.int y :: .int x1 :: st) S Z := by
  intro l Y hY p e s m args below meth c X hK ls H locs hL hP hS
  exact lv_imul X.1 X.2.1 hd (h l Y hY p e s m args below meth c X hK ls H locs hL hP hS)
theorem w_iand {M : Mt} {pc : Nat} {L st : List Value} {S : St} {Z : Option Value → St → Prop} {x1 y : Int32} (hd : decode M.2.1 pc = .ok (.iand, 1)) (h : Wp M (pc + 1) L (.int (x1 &&& y) :: st) S Z) : Wp M pc L (.int y :: .int x1 :: st) S Z := by
  intro l Y hY p e s m args below meth c X hK ls H locs hL hP hS
  exact lv_iand X.1 X.2.1 hd (h l Y hY p e s m args below meth c X hK ls H locs hL hP hS)
theorem w_ior {M : Mt} {pc : Nat} {L st : List Value} {S : St} {Z : Option Value → St → Prop} {x1 y : Int32} (hd : decode M.2.1 pc = .ok (.ior, 1)) (h : Wp M (pc + 1) L (.int (x1 ||| y) :: st) S Z) : Wp M pc L (.int y :: .int x1 :: st) S Z := by
  intro l Y hY p e s m args below meth c X hK ls H locs hL hP hS
  exact lv_ior X.1 X.2.1 hd (h l Y hY p e s m args below meth c X hK ls H locs hL hP hS)
theorem w_ixor {M : Mt} {pc : Nat} {L st : List Value} {S : St} {Z : Option Value → St → Prop} {x1 y : Int32} (hd : decode M.2.1 pc = .ok (.ixor, 1)) (h : Wp M (pc + 1) L (.int (x1 ^^^ y) :: st) S Z) : Wp M pc L (.int y :: .int x1 :: st) S Z := by
  intro l Y hY p e s m args below meth c X hK ls H locs hL hP hS
  exact lv_ixor X.1 X.2.1 hd (h l Y hY p e s m args below meth c X hK ls H locs hL hP hS)
theorem w_ishl {M : Mt} {pc : Nat} {L st : List Value} {S : St} {Z : Option Value → St → Prop} {x1 y : Int32} (hd : decode M.2.1 pc = .ok (.ishl, 1)) (h : Wp M (pc + 1) L (.int (x1 <<< (y &&& 31)) :: st) S Z) : Wp M pc L (.int y :: .int x1 :: st) S Z := by
  intro l Y hY p e s m args below meth c X hK ls H locs hL hP hS
  exact lv_ishl X.1 X.2.1 hd (h l Y hY p e s m args below meth c X hK ls H locs hL hP hS)
theorem w_idiv {M : Mt} {pc : Nat} {L st : List Value} {S : St} {Z : Option Value → St → Prop} {x1 y : Int32} (hd : decode M.2.1 pc = .ok (.idiv, 1)) (hne : ¬ y = 0) (h : Wp M (pc + 1) L (.int (x1 / y) :: st) S Z) : Wp M pc L (.int y :: .int x1 :: st) S Z := by
  intro l Y hY p e s m args below meth c X hK ls H locs hL hP hS
  exact lv_idiv X.1 X.2.1 hd hne (h l Y hY p e s m args below meth c X hK ls H locs hL hP hS)
theorem w_irem {M : Mt} {pc : Nat} {L st : List Value} {S : St} {Z : Option Value → St → Prop} {x1 y : Int32} (hd : decode M.2.1 pc = .ok (.irem, 1)) (hne : ¬ y = 0) (h : Wp M (pc + 1) L (.int (x1 - x1 / y * y) :: st) S Z) : Wp M pc L (.int y :: .int x1 :: st) S Z := by
  intro l Y hY p e s m args below meth c X hK ls H locs hL hP hS
  exact lv_irem X.1 X.2.1 hd hne (h l Y hY p e s m args below meth c X hK ls H locs hL hP hS)
theorem w_ineg {M : Mt} {pc : Nat} {L st : List Value} {S : St} {Z : Option Value → St → Prop} {y : Int32} (hd : decode M.2.1 pc = .ok (.ineg, 1)) (h : Wp M (pc + 1) L (.int (-y) :: st) S Z) : Wp M pc L (.int y :: st) S Z := by
  intro l Y hY p e s m args below meth c X hK ls H locs hL hP hS
  exact lv_ineg X.1 X.2.1 hd (h l Y hY p e s m args below meth c X hK ls H locs hL hP hS)
theorem w_dup {M : Mt} {pc : Nat} {L st : List Value} {S : St} {Z : Option Value → St → Prop} {v : Value} (hd : decode M.2.1 pc = .ok (.dup, 1)) (hv : v.category = 1) (h : Wp M (pc + 1) L (v :: v :: st) S Z) : Wp M pc L (v :: st) S Z := by
  intro l Y hY p e s m args below meth c X hK ls H locs hL hP hS
  exact lv_dup X.1 X.2.1 hd (by rw [tr_cat1]; exact hv) (h l Y hY p e s m args below meth c X hK ls H locs hL hP hS)
theorem w_dup2 {M : Mt} {pc : Nat} {L st : List Value} {S : St} {Z : Option Value → St → Prop} {v w : Value} (hd : decode M.2.1 pc = .ok (.dup2, 1)) (hv : v.category = 1) (hw : w.category = 1) (h : Wp M (pc + 1) L (v :: w :: v :: w :: st) S Z) : Wp M pc L (v :: w :: st) S Z := by
  intro l Y hY p e s m args below meth c X hK ls H locs hL hP hS
  exact lv_dup2_11 X.1 X.2.1 hd (by rw [tr_cat1]; exact hv) (by rw [tr_cat1]; exact hw) (h l Y hY p e s m args below meth c X hK ls H locs hL hP hS)
theorem w_pop {M : Mt} {pc : Nat} {L st : List Value} {S : St} {Z : Option Value → St → Prop} {v : Value} (hd : decode M.2.1 pc = .ok (.pop, 1)) (hv : v.category = 1) (h : Wp M (pc + 1) L st S Z) : Wp M pc L (v :: st) S Z := by
  intro l Y hY p e s m args below meth c X hK ls H locs hL hP hS
  exact lv_pop X.1 X.2.1 hd (by rw [tr_cat1]; exact hv) (h l Y hY p e s m args below meth c X hK ls H locs hL hP hS)
theorem w_goto {M : Mt} {pc : Nat} {L st : List Value} {S : St} {Z : Option Value → St → Prop} {off : Int} (tgt : Nat) (hd : decode M.2.1 pc = .ok (.goto off, 3)) (ht : (pc : Int) + off = (tgt : Int)) (h : Wp M tgt L st S Z) : Wp M pc L (st) S Z := by
  intro l Y hY p e s m args below meth c X hK ls H locs hL hP hS
  exact lv_goto X.1 X.2.1 hd ht (h l Y hY p e s m args below meth c X hK ls H locs hL hP hS)
theorem w_if_eq {M : Mt} {pc : Nat} {L st : List Value} {S : St} {Z : Option Value → St → Prop} {x1 : Int32} {off : Int} (tgt : Nat) (hd : decode M.2.1 pc = .ok (.ifCond .eq off, 3)) (ht : (pc : Int) + off = (tgt : Int)) (ht1 : x1 = 0 → Wp M tgt L st S Z) (hf1 : ¬ x1 = 0 → Wp M (pc + 3) L st S Z) : Wp M pc L (.int x1 :: st) S Z := by
  intro l Y hY p e s m args below meth c X hK ls H locs hL hP hS
  exact lv_if_eq X.1 X.2.1 hd ht (fun hq => (ht1 hq l Y hY p e s m args below meth c X hK ls H locs hL hP hS)) (fun hq => (hf1 hq l Y hY p e s m args below meth c X hK ls H locs hL hP hS))
theorem w_icmp_eq {M : Mt} {pc : Nat} {L st : List Value} {S : St} {Z : Option Value → St → Prop} {x1 y : Int32} {off : Int} (tgt : Nat) (hd : decode M.2.1 pc = .ok (.if_icmp .eq off, 3)) (ht : (pc : Int) + off = (tgt : Int)) (ht1 : x1 = y → Wp M tgt L st S Z) (hf1 : ¬ x1 = y → Wp M (pc + 3) L st S Z) : Wp M pc L (.int y :: .int x1 :: st) S Z := by
  intro l Y hY p e s m args below meth c X hK ls H locs hL hP hS
  exact lv_icmp_eq X.1 X.2.1 hd ht (fun hq => (ht1 hq l Y hY p e s m args below meth c X hK ls H locs hL hP hS)) (fun hq => (hf1 hq l Y hY p e s m args below meth c X hK ls H locs hL hP hS))
theorem w_if_ne {M : Mt} {pc : Nat} {L st : List Value} {S : St} {Z : Option Value → St → Prop} {x1 : Int32} {off : Int} (tgt : Nat) (hd : decode M.2.1 pc = .ok (.ifCond .ne off, 3)) (ht : (pc : Int) + off = (tgt : Int)) (ht1 : ¬ x1 = 0 → Wp M tgt L st S Z) (hf1 : x1 = 0 → Wp M (pc + 3) L st S Z) : Wp M pc L (.int x1 :: st) S Z := by
  intro l Y hY p e s m args below meth c X hK ls H locs hL hP hS
  exact lv_if_ne X.1 X.2.1 hd ht (fun hq => (ht1 hq l Y hY p e s m args below meth c X hK ls H locs hL hP hS)) (fun hq => (hf1 hq l Y hY p e s m args below meth c X hK ls H locs hL hP hS))
theorem w_icmp_ne {M : Mt} {pc : Nat} {L st : List Value} {S : St} {Z : Option Value → St → Prop} {x1 y : Int32} {off : Int} (tgt : Nat) (hd : decode M.2.1 pc = .ok (.if_icmp .ne off, 3)) (ht : (pc : Int) + off = (tgt : Int)) (ht1 : ¬ x1 = y → Wp M tgt L st S Z) (hf1 : x1 = y → Wp M (pc + 3) L st S Z) : Wp M pc L (.int y :: .int x1 :: st) S Z := by
  intro l Y hY p e s m args below meth c X hK ls H locs hL hP hS
  exact lv_icmp_ne X.1 X.2.1 hd ht (fun hq => (ht1 hq l Y hY p e s m args below meth c X hK ls H locs hL hP hS)) (fun hq => (hf1 hq l Y hY p e s m args below meth c X hK ls H locs hL hP hS))
theorem w_if_lt {M : Mt} {pc : Nat} {L st : List Value} {S : St} {Z : Option Value → St → Prop} {x1 : Int32} {off : Int} (tgt : Nat) (hd : decode M.2.1 pc = .ok (.ifCond .lt off, 3)) (ht : (pc : Int) + off = (tgt : Int)) (ht1 : x1 < 0 → Wp M tgt L st S Z) (hf1 : ¬ x1 < 0 → Wp M (pc + 3) L st S Z) : Wp M pc L (.int x1 :: st) S Z := by
  intro l Y hY p e s m args below meth c X hK ls H locs hL hP hS
  exact lv_if_lt X.1 X.2.1 hd ht (fun hq => (ht1 hq l Y hY p e s m args below meth c X hK ls H locs hL hP hS)) (fun hq => (hf1 hq l Y hY p e s m args below meth c X hK ls H locs hL hP hS))
theorem w_icmp_lt {M : Mt} {pc : Nat} {L st : List Value} {S : St} {Z : Option Value → St → Prop} {x1 y : Int32} {off : Int} (tgt : Nat) (hd : decode M.2.1 pc = .ok (.if_icmp .lt off, 3)) (ht : (pc : Int) + off = (tgt : Int)) (ht1 : x1 < y → Wp M tgt L st S Z) (hf1 : ¬ x1 < y → Wp M (pc + 3) L st S Z) : Wp M pc L (.int y :: .int x1 :: st) S Z := by
  intro l Y hY p e s m args below meth c X hK ls H locs hL hP hS
  exact lv_icmp_lt X.1 X.2.1 hd ht (fun hq => (ht1 hq l Y hY p e s m args below meth c X hK ls H locs hL hP hS)) (fun hq => (hf1 hq l Y hY p e s m args below meth c X hK ls H locs hL hP hS))
theorem w_if_ge {M : Mt} {pc : Nat} {L st : List Value} {S : St} {Z : Option Value → St → Prop} {x1 : Int32} {off : Int} (tgt : Nat) (hd : decode M.2.1 pc = .ok (.ifCond .ge off, 3)) (ht : (pc : Int) + off = (tgt : Int)) (ht1 : 0 ≤ x1 → Wp M tgt L st S Z) (hf1 : ¬ 0 ≤ x1 → Wp M (pc + 3) L st S Z) : Wp M pc L (.int x1 :: st) S Z := by
  intro l Y hY p e s m args below meth c X hK ls H locs hL hP hS
  exact lv_if_ge X.1 X.2.1 hd ht (fun hq => (ht1 hq l Y hY p e s m args below meth c X hK ls H locs hL hP hS)) (fun hq => (hf1 hq l Y hY p e s m args below meth c X hK ls H locs hL hP hS))
theorem w_icmp_ge {M : Mt} {pc : Nat} {L st : List Value} {S : St} {Z : Option Value → St → Prop} {x1 y : Int32} {off : Int} (tgt : Nat) (hd : decode M.2.1 pc = .ok (.if_icmp .ge off, 3)) (ht : (pc : Int) + off = (tgt : Int)) (ht1 : y ≤ x1 → Wp M tgt L st S Z) (hf1 : ¬ y ≤ x1 → Wp M (pc + 3) L st S Z) : Wp M pc L (.int y :: .int x1 :: st) S Z := by
  intro l Y hY p e s m args below meth c X hK ls H locs hL hP hS
  exact lv_icmp_ge X.1 X.2.1 hd ht (fun hq => (ht1 hq l Y hY p e s m args below meth c X hK ls H locs hL hP hS)) (fun hq => (hf1 hq l Y hY p e s m args below meth c X hK ls H locs hL hP hS))
theorem w_if_gt {M : Mt} {pc : Nat} {L st : List Value} {S : St} {Z : Option Value → St → Prop} {x1 : Int32} {off : Int} (tgt : Nat) (hd : decode M.2.1 pc = .ok (.ifCond .gt off, 3)) (ht : (pc : Int) + off = (tgt : Int)) (ht1 : 0 < x1 → Wp M tgt L st S Z) (hf1 : ¬ 0 < x1 → Wp M (pc + 3) L st S Z) : Wp M pc L (.int x1 :: st) S Z := by
  intro l Y hY p e s m args below meth c X hK ls H locs hL hP hS
  exact lv_if_gt X.1 X.2.1 hd ht (fun hq => (ht1 hq l Y hY p e s m args below meth c X hK ls H locs hL hP hS)) (fun hq => (hf1 hq l Y hY p e s m args below meth c X hK ls H locs hL hP hS))
theorem w_icmp_gt {M : Mt} {pc : Nat} {L st : List Value} {S : St} {Z : Option Value → St → Prop} {x1 y : Int32} {off : Int} (tgt : Nat) (hd : decode M.2.1 pc = .ok (.if_icmp .gt off, 3)) (ht : (pc : Int) + off = (tgt : Int)) (ht1 : y < x1 → Wp M tgt L st S Z) (hf1 : ¬ y < x1 → Wp M (pc + 3) L st S Z) : Wp M pc L (.int y :: .int x1 :: st) S Z := by
  intro l Y hY p e s m args below meth c X hK ls H locs hL hP hS
  exact lv_icmp_gt X.1 X.2.1 hd ht (fun hq => (ht1 hq l Y hY p e s m args below meth c X hK ls H locs hL hP hS)) (fun hq => (hf1 hq l Y hY p e s m args below meth c X hK ls H locs hL hP hS))
theorem w_if_le {M : Mt} {pc : Nat} {L st : List Value} {S : St} {Z : Option Value → St → Prop} {x1 : Int32} {off : Int} (tgt : Nat) (hd : decode M.2.1 pc = .ok (.ifCond .le off, 3)) (ht : (pc : Int) + off = (tgt : Int)) (ht1 : x1 ≤ 0 → Wp M tgt L st S Z) (hf1 : ¬ x1 ≤ 0 → Wp M (pc + 3) L st S Z) : Wp M pc L (.int x1 :: st) S Z := by
  intro l Y hY p e s m args below meth c X hK ls H locs hL hP hS
  exact lv_if_le X.1 X.2.1 hd ht (fun hq => (ht1 hq l Y hY p e s m args below meth c X hK ls H locs hL hP hS)) (fun hq => (hf1 hq l Y hY p e s m args below meth c X hK ls H locs hL hP hS))
theorem w_icmp_le {M : Mt} {pc : Nat} {L st : List Value} {S : St} {Z : Option Value → St → Prop} {x1 y : Int32} {off : Int} (tgt : Nat) (hd : decode M.2.1 pc = .ok (.if_icmp .le off, 3)) (ht : (pc : Int) + off = (tgt : Int)) (ht1 : x1 ≤ y → Wp M tgt L st S Z) (hf1 : ¬ x1 ≤ y → Wp M (pc + 3) L st S Z) : Wp M pc L (.int y :: .int x1 :: st) S Z := by
  intro l Y hY p e s m args below meth c X hK ls H locs hL hP hS
  exact lv_icmp_le X.1 X.2.1 hd ht (fun hq => (ht1 hq l Y hY p e s m args below meth c X hK ls H locs hL hP hS)) (fun hq => (hf1 hq l Y hY p e s m args below meth c X hK ls H locs hL hP hS))
theorem w_ret {M : Mt} {pc : Nat} {L st : List Value} {S : St} {Z : Option Value → St → Prop} (hr : M.2.2.2.1 = none) (hd : decode M.2.1 pc = .ok (.return_, 1)) (h : Z none S) : Wp M pc L ([]) S Z := by
  intro l Y hY p e s m args below meth c X hK ls H locs hL hP hS
  exact W.vret X.1 X.2.1 (X.2.2.1.trans hr) (fun t ht hW => ⟨⟨none, S, rfl, h, by rw [ht]; exact hP⟩, hS.F ht⟩) hS.2.2 hd X.2.2.2.2.2.2.1
theorem w_iret {M : Mt} {pc : Nat} {L st : List Value} {S : St} {Z : Option Value → St → Prop} {y : Int32} (hr : M.2.2.2.1 = some .int) (hd : decode M.2.1 pc = .ok (.ireturn, 1)) (h : Z (some (.int y)) S) : Wp M pc L ([.int y]) S Z := by
  intro l Y hY p e s m args below meth c X hK ls H locs hL hP hS
  exact W.iret X.1 X.2.1 (X.2.2.1.trans hr) (fun t ht hW => ⟨⟨some (.int y), S, rfl, h, by rw [ht]; exact hP⟩, hS.F ht⟩) hS.2.2 hd X.2.2.2.2.2.2.1
theorem w_zret {M : Mt} {pc : Nat} {L st : List Value} {S : St} {Z : Option Value → St → Prop} {y : Int32} (hr : M.2.2.2.1 = some .boolean) (hd : decode M.2.1 pc = .ok (.ireturn, 1)) (hy : y = 0 ∨ y = 1) (h : Z (some (.int y)) S) : Wp M pc L ([.int y]) S Z := by
  intro l Y hY p e s m args below meth c X hK ls H locs hL hP hS
  exact W.zret X.1 X.2.1 (X.2.2.1.trans hr) (by rcases hy with rfl | rfl <;> decide +kernel) (fun t ht hW => ⟨⟨some (.int y), S, rfl, h, by rw [ht]; exact hP⟩, hS.F ht⟩) hS.2.2 hd X.2.2.2.2.2.2.1

theorem cel_obj {Y : Lay} {S : St} {a ci : Nat} (h : kd a = 4 + ci) : cel Y S a = .inr (ci, (List.range (nfT.getD ci 0)).map (fvl Y.2.2 S a)) := by
  unfold cel
  rw [if_neg (by omega), if_neg (by omega), if_neg (by omega), if_neg (by omega), h, show 4 + ci - 4 = ci by omega]
theorem zcl_len {ci : Nat} {C : String} {T : u_T} {N : Nat} (h : zcl[ci]? = some (C, T, N)) : nfT.getD ci 0 = N := by
  match ci, h with
  | 0, h | 1, h | 2, h | 3, h | 4, h | 5, h | 6, h | 7, h | 8, h | 9, h => cases h; rfl
theorem fvl_at {Y : Lay} {S : St} {a n k : Nat} (hk : k < n) : ((List.range n).map (fvl Y.2.2 S a))[k]? = some (fvl Y.2.2 S a k) := by
  rw [List.getElem?_map, List.getElem?_range hk]
  rfl
theorem w_get {M : Mt} {pc : Nat} {L st : List Value} {S : St} {Z : Option Value → St → Prop} {idx ci k a : Nat} {v : Value} (hd : decode M.2.1 pc = .ok (.getfield idx, 3)) (hf : FL M.1.cls idx ci k) (ha : a < 204) (hk : kd a = 4 + ci) (hv : (match fref a k with | some d => Value.ref d | none => .int (S.1 a k)) = v) (h : Wp M (pc + 3) L (v :: st) S Z) : Wp M pc L (.ref a :: st) S Z := by
  intro l Y hY p e s m args below meth c X hK ls H locs hL hP hS
  obtain ⟨C, T, N, h1, h2, h3, h4⟩ := hf
  have hw := (wsf_at (Y := Y) (S := S) ha)
  rw [cel_obj hk] at hw
  have hfs := fvl_at (Y := Y) (S := S) (a := a) (n := nfT.getD ci 0) (k := k) (by rw [zcl_len h1]; exact h2)
  have e1 : fvl Y.2.2 S a k = tr Y.2.2 v := by
    rw [← hv]
    unfold fvl
    cases fref a k <;> rfl
  rw [e1] at hfs
  have go := h l Y hY p e s m args below meth c X hK ls H locs hL hP hS
  rcases h4 with h4 | ⟨host, h4⟩
  · exact va_get X.1 X.2.1 X.2.2.2.2.2.1 (fun w hw => List.mem_cons_of_mem _ ((zcf h1).1 w hw)) X.2.2.2.2.1 hK hP a hw h1 k h2 (X.2.2.2.2.2.1 _ (List.mem_cons_of_mem _ h4)) (fun x9 h9 => by rw [h3] at h9; exact h9) hfs hd go
  · exact va_getN X.1 X.2.1 X.2.2.2.2.2.1 (fun w hw => List.mem_cons_of_mem _ ((zcf h1).1 w hw)) X.2.2.2.2.1 hK hP a hw h1 k h2 (va_Nw.use rfl (X.2.2.2.2.2.2.2 _ h4)) (fun x9 h9 => by rw [h3] at h9; exact h9) hfs hd go
theorem fvl_set {Y : Lay} {S : St} {a k n : Nat} {v : Int32} (hk : k < n) (hr : fref a k = none) : ((List.range n).map (fvl Y.2.2 S a)).set k (.int v) = (List.range n).map (fvl Y.2.2 (up2 S.1 a k v, S.2) a) := by
  apply List.ext_getElem?
  intro j
  by_cases hj : j = k
  · subst hj
    rw [List.getElem?_set_self (by rw [List.length_map, List.length_range]; exact hk), fvl_at hk]
    unfold fvl
    rw [hr]
    show _ = some (Value.int (up2 S.1 a j v a j))
    rw [up2_same]
  · rw [List.getElem?_set_ne (Ne.symm hj)]
    by_cases hjn : j < n
    · rw [fvl_at hjn, fvl_at hjn]
      unfold fvl
      cases fref a j with
      | some _ => rfl
      | none => show _ = some (Value.int (up2 S.1 a k v a j)); rw [up2_ne (fun q => hj q.2)]
    · rw [List.getElem?_eq_none (by rw [List.length_map, List.length_range]; omega), List.getElem?_eq_none (by rw [List.length_map, List.length_range]; omega)]
theorem w_put {M : Mt} {pc : Nat} {L st : List Value} {S : St} {Z : Option Value → St → Prop} {idx ci k a : Nat} {v : Int32} {ty : FieldType} (hd : decode M.2.1 pc = .ok (.putfield idx, 3)) (hf : FL M.1.cls idx ci k) (hw : FW ci k ty) (ha : a < 204) (hk : kd a = 4 + ci) (hr : fref a k = none) (hn : narrow ty (.int v) = .int v) (hfit : fits ty (.int v) = true) (h : Wp M (pc + 3) L st (up2 S.1 a k v, S.2) Z) : Wp M pc L (.int v :: .ref a :: st) S Z := by
  intro l Y hY p e s m args below meth c X hK ls H locs hL hP hS
  obtain ⟨C, T, N, h1, h2, h3, h4⟩ := hf
  obtain ⟨w1, w2⟩ := hw C T N h1
  obtain ⟨z1, ⟨t0, z2⟩, z3⟩ := zcf h1
  have hwa := (wsf_at (Y := Y) (S := S) ha)
  rw [cel_obj hk] at hwa
  have hkn : k < nfT.getD ci 0 := by rw [zcl_len h1]; exact h2
  have go : ∀ (H1 : Heap) (locs1 : List Loc), va_P Y.1 zcl ((wsf Y S).set a (Y.2.2 a, .inr (ci, ((List.range (nfT.getD ci 0)).map (fvl Y.2.2 S a)).set k (.int v)))) H1 → va_D (AA Y.2.2) ((wsf Y S).set a (Y.2.2 a, .inr (ci, ((List.range (nfT.getD ci 0)).map (fvl Y.2.2 S a)).set k (.int v)))) → va_S (AA Y.2.2) s.heap H1 locs1 → W p l e (rmO M) s m args below meth c H1 locs1 0 0 (MQ below (QQ Y Z) args s 0 0 (AA Y.2.2)) (F0 m (pc + 3) ls (st.map (tr Y.2.2))) := by
    intro H1 locs1 hP1 _ hS1
    rw [fvl_set hkn hr, ← cel_obj (Y := Y) (S := (up2 S.1 a k v, S.2)) hk, wsf_set (fun d hd => cel_up2 hd)] at hP1
    exact h l Y hY p e s m args below meth c X hK ls H1 locs1 hL hP1 hS1
  rcases h4 with h4 | ⟨host, h4⟩
  · exact va_put X.1 X.2.1 X.2.2.2.2.2.1 (fun w hw => List.mem_cons_of_mem _ (z1 w hw)) t0 z2 z3 X.2.2.2.2.1 hK hP (wsf_D hY S) hS a hwa h1 k h2 (X.2.2.2.2.2.1 _ (List.mem_cons_of_mem _ h4)) (fun x9 h9 => by rw [h3] at h9; exact h9) w1 w2 hn hfit (by rw [List.length_map, List.length_range]; exact hkn) hd go
  · exact va_putN X.1 X.2.1 X.2.2.2.2.2.1 (fun w hw => List.mem_cons_of_mem _ (z1 w hw)) t0 z2 z3 X.2.2.2.2.1 hK hP (wsf_D hY S) hS a hwa h1 k h2 (va_Nw.use rfl (X.2.2.2.2.2.2.2 _ h4)) (fun x9 h9 => by rw [h3] at h9; exact h9) w1 w2 hn hfit (by rw [List.length_map, List.length_range]; exact hkn) hd go
theorem cel_int {Y : Lay} {S : St} {a : Nat} (h : kd a = 0) : cel Y S a = .inl (Y.2.1 0, ln a, .inl (S.1 a)) := by
  unfold cel
  rw [if_pos h]
theorem cel_boo {Y : Lay} {S : St} {a : Nat} (h : kd a = 1) : cel Y S a = .inl (Y.2.1 1, ln a, .inl (S.1 a)) := by
  unfold cel
  rw [if_neg (by omega), if_pos h]
theorem cel_grd {Y : Lay} {S : St} {a : Nat} (h : kd a = 2) : cel Y S a = .inl (Y.2.1 2, ln a, .inr (.inr (.inr (.inr (fun i => some (Y.2.2 (gbase a + i))))))) := by
  unfold cel
  rw [if_neg (by omega), if_neg (by omega), if_pos h]
theorem cel_ent {Y : Lay} {S : St} {a : Nat} (h : kd a = 3) : cel Y S a = .inl (Y.2.1 3, ln a, .inr (.inr (.inr (.inr (fun i => some (Y.2.2 (S.2 i))))))) := by
  unfold cel
  rw [if_neg (by omega), if_neg (by omega), if_neg (by omega), if_pos h]
/-- loads: the place is the number n -/
theorem w_iald {M : Mt} {pc : Nat} {L st : List Value} {S : St} {Z : Option Value → St → Prop} {a n : Nat} {i : Int32} (hd : decode M.2.1 pc = .ok (.iaload, 1)) (hi : i = nI n) (ha : a < 204) (hk : kd a = 0) (hn : n < ln a) (h : Wp M (pc + 1) L (.int (S.1 a n) :: st) S Z) : Wp M pc L (.int i :: .ref a :: st) S Z := by
  intro l Y hY p e s m args below meth c X hK ls H locs hL hP hS
  have hwa := (wsf_at (Y := Y) (S := S) ha)
  rw [cel_int hk] at hwa
  have hb := ln_small a
  have go := h l Y hY p e s m args below meth c X hK ls H locs hL hP hS
  subst hi
  refine va_iald X.1 X.2.1 hK hP a 0 hwa rfl (vp_in_nI hn (by omega)) hd ?_
  rw [nI_clamp (by omega)]
  exact go
theorem w_bald {M : Mt} {pc : Nat} {L st : List Value} {S : St} {Z : Option Value → St → Prop} {a n : Nat} {i : Int32} (hd : decode M.2.1 pc = .ok (.baload, 1)) (hi : i = nI n) (ha : a < 204) (hk : kd a = 1) (hn : n < ln a) (h : Wp M (pc + 1) L (.int (S.1 a n) :: st) S Z) : Wp M pc L (.int i :: .ref a :: st) S Z := by
  intro l Y hY p e s m args below meth c X hK ls H locs hL hP hS
  have hwa := (wsf_at (Y := Y) (S := S) ha)
  rw [cel_boo hk] at hwa
  have hb := ln_small a
  have go := h l Y hY p e s m args below meth c X hK ls H locs hL hP hS
  subst hi
  refine va_zald X.1 X.2.1 hK hP a 1 hwa rfl (vp_in_nI hn (by omega)) hd ?_
  rw [nI_clamp (by omega)]
  exact go
theorem w_aald {M : Mt} {pc : Nat} {L st : List Value} {S : St} {Z : Option Value → St → Prop} {a n : Nat} {i : Int32} (hd : decode M.2.1 pc = .ok (.aaload, 1)) (hi : i = nI n) (ha : a < 204) (hk : kd a = 2) (hn : n < ln a) (h : Wp M (pc + 1) L (.ref (gbase a + n) :: st) S Z) : Wp M pc L (.int i :: .ref a :: st) S Z := by
  intro l Y hY p e s m args below meth c X hK ls H locs hL hP hS
  have hwa := (wsf_at (Y := Y) (S := S) ha)
  rw [cel_grd hk] at hwa
  have hb := ln_small a
  have go := h l Y hY p e s m args below meth c X hK ls H locs hL hP hS
  subst hi
  have hin : vp_in (nI n) (ln a) := vp_in_nI hn (by omega)
  have ht : (ztys Y)[2]? = some (Y.2.1 2, .array .int) := rfl
  refine W.aald (v := .ref (Y.2.2 (gbase a + n))) (ty := .array .int) X.1 X.2.1 (hP a _ hwa) ((hK.2 2 _ ht).1 (ln a) (fun j => va_rf (some (Y.2.2 (gbase a + j))))) rfl (fun q => by cases q) (by show ¬ (nI n < 0 ∨ (arrV _ _ _).slots.size ≤ _); rw [arrV_size]; exact hin) (by show (arrV _ _ _).slots[_]? = _; rw [nI_clamp (by omega), arrV_read _ _ hn]; rfl) rfl rfl hd go
theorem w_eald {M : Mt} {pc : Nat} {L st : List Value} {S : St} {Z : Option Value → St → Prop} {a n : Nat} {i : Int32} (hd : decode M.2.1 pc = .ok (.aaload, 1)) (hi : i = nI n) (ha : a < 204) (hk : kd a = 3) (hn : n < ln a) (h : Wp M (pc + 1) L (.ref (S.2 n) :: st) S Z) : Wp M pc L (.int i :: .ref a :: st) S Z := by
  intro l Y hY p e s m args below meth c X hK ls H locs hL hP hS
  have hwa := (wsf_at (Y := Y) (S := S) ha)
  rw [cel_ent hk] at hwa
  have hb := ln_small a
  have go := h l Y hY p e s m args below meth c X hK ls H locs hL hP hS
  subst hi
  refine va_aldq X.1 X.2.1 hK hP a 3 hwa rfl (vp_in_nI hn (by omega)) hd ?_
  rw [nI_clamp (by omega)]
  exact go
theorem w_iast {M : Mt} {pc : Nat} {L st : List Value} {S : St} {Z : Option Value → St → Prop} {a n : Nat} {i v : Int32} (hd : decode M.2.1 pc = .ok (.iastore, 1)) (hi : i = nI n) (ha : a < 204) (hk : kd a = 0) (hn : n < ln a) (h : Wp M (pc + 1) L st (up2 S.1 a n v, S.2) Z) : Wp M pc L (.int v :: .int i :: .ref a :: st) S Z := by
  intro l Y hY p e s m args below meth c X hK ls H locs hL hP hS
  have hwa := (wsf_at (Y := Y) (S := S) ha)
  rw [cel_int hk] at hwa
  have hb := ln_small a
  subst hi
  refine va_iast X.1 X.2.1 hK hP (wsf_D hY S) hS a 0 hwa rfl (vp_in_nI hn (by omega)) hd ?_
  intro H1 locs1 hP1 _ hS1
  rw [nI_clamp (by omega), ← up2_upd, show (Sum.inl (Y.2.1 0, ln a, Sum.inl (up2 S.1 a n v a)) : va_E) = cel Y (up2 S.1 a n v, S.2) a from (cel_int (Y := Y) (S := (up2 S.1 a n v, S.2)) hk).symm, wsf_set (fun d hd => cel_up2 hd)] at hP1
  exact h l Y hY p e s m args below meth c X hK ls H1 locs1 hL hP1 hS1
theorem w_bast {M : Mt} {pc : Nat} {L st : List Value} {S : St} {Z : Option Value → St → Prop} {a n : Nat} {i v : Int32} (hd : decode M.2.1 pc = .ok (.bastore, 1)) (hi : i = nI n) (ha : a < 204) (hk : kd a = 1) (hn : n < ln a) (hv : v = 0 ∨ v = 1) (h : Wp M (pc + 1) L st (up2 S.1 a n v, S.2) Z) : Wp M pc L (.int v :: .int i :: .ref a :: st) S Z := by
  intro l Y hY p e s m args below meth c X hK ls H locs hL hP hS
  have hwa := (wsf_at (Y := Y) (S := S) ha)
  rw [cel_boo hk] at hwa
  have hb := ln_small a
  subst hi
  refine va_zast X.1 X.2.1 hK hP (wsf_D hY S) hS a 1 hwa rfl (vp_in_nI hn (by omega)) hd ?_
  intro H1 locs1 hP1 _ hS1
  have hv1 : vp_nar .boolean v = v := by rcases hv with rfl | rfl <;> decide +kernel
  rw [nI_clamp (by omega), hv1, ← up2_upd, show (Sum.inl (Y.2.1 1, ln a, Sum.inl (up2 S.1 a n v a)) : va_E) = cel Y (up2 S.1 a n v, S.2) a from (cel_boo (Y := Y) (S := (up2 S.1 a n v, S.2)) hk).symm, wsf_set (fun d hd => cel_up2 hd)] at hP1
  exact h l Y hY p e s m args below meth c X hK ls H1 locs1 hL hP1 hS1
def upT (f : Nat → Nat) (i v : Nat) : Nat → Nat := fun j => if j = i then v else f j
theorem cel_upT {Y : Lay} {S : St} {i v d : Nat} (h : d ≠ 19) : cel Y (S.1, upT S.2 i v) d = cel Y S d := by
  have h3 : kd d ≠ 3 := by
    unfold kd
    repeat' split
    all_goals omega
  unfold cel
  rw [if_neg h3, if_neg h3]
  rfl
theorem w_east {M : Mt} {pc : Nat} {L st : List Value} {S : St} {Z : Option Value → St → Prop} {n b : Nat} {i : Int32} (hd : decode M.2.1 pc = .ok (.aastore, 1)) (hi : i = nI n) (hn : n < 20) (hb1 : 124 ≤ b) (hb2 : b < 144) (h : Wp M (pc + 1) L st (S.1, upT S.2 n b) Z) : Wp M pc L (.ref b :: .int i :: .ref 19 :: st) S Z := by
  intro l Y hY p e s m args below meth c X hK ls H locs hL hP hS
  have hwa := (wsf_at (Y := Y) (S := S) (c := 19) (by decide))
  rw [cel_ent (by decide)] at hwa
  have hwb := (wsf_at (Y := Y) (S := S) (c := b) (by omega))
  have hkb : kd b = 4 + 9 := by
    unfold kd
    rw [if_neg (by omega), if_neg (by omega), if_neg (by omega), if_neg (by omega), if_pos ⟨hb1, hb2⟩]
  rw [cel_obj hkb] at hwb
  subst hi
  refine va_astq X.1 X.2.1 hK hP (wsf_D hY S) hS 19 3 b 9 hwa rfl hwb rfl (vp_in_nI (show n < ln 19 from hn) (by decide)) hd ?_
  intro H1 locs1 hP1 _ hS1
  rw [nI_clamp (by omega)] at hP1
  have e1 : va_up (fun i => some (Y.2.2 (S.2 i))) n (some (Y.2.2 b)) = fun i => some (Y.2.2 (upT S.2 n b i)) := by
    funext j
    unfold va_up upT
    by_cases hj : j = n
    · rw [if_pos hj, if_pos hj]
    · rw [if_neg hj, if_neg hj]
  rw [e1, show (Sum.inl (Y.2.1 3, ln 19, Sum.inr (Sum.inr (Sum.inr (Sum.inr (fun i => some (Y.2.2 (upT S.2 n b i))))))) : va_E) = cel Y (S.1, upT S.2 n b) 19 from (cel_ent (S := (S.1, upT S.2 n b)) (by decide)).symm, wsf_set (fun d hd => cel_upT hd)] at hP1
  exact h l Y hY p e s m args below meth c X hK ls H1 locs1 hL hP1 hS1
theorem good_in {M N : Mt} (h : Cond.code N.1 N.2.1 N.2.2.1 N.2.2.2.1 ∈ gtbl) : GoodIn (wsO M) (wsO N) := by
  intro w hw
  rcases List.mem_cons.mp hw with rfl | hw
  · exact ⟨List.mem_cons_of_mem _ h, good_of_word (List.mem_filter.mp h).2⟩
  · exact ⟨List.mem_cons_of_mem _ hw, good_of_word (List.mem_filter.mp hw).2⟩
theorem tr_map_cat {ad : Nat → Nat} : ∀ {r : List Value}, (∀ v ∈ r, v.category = 1) → ((r.map (tr ad)).map fun v => v.category).sum = r.length
  | [], _ => rfl
  | v :: r, h => by
    rw [List.map_cons, List.map_cons, List.sum_cons, tr_cat1, h v List.mem_cons_self, tr_map_cat (fun w hw => h w (List.mem_cons_of_mem _ hw)), List.length_cons]
    omega
/-- behind a call -/
theorem w_back {M : Mt} {pc : Nat} {L rest : List Value} {Z : Option Value → St → Prop} {l : Launch} {Y : Lay} (hY : okY Y) {p : Program} {e : Env} {s : State} {m : MethodId} {args : Array Value} {below : List Frame} {meth : Method} {c : Code} (X : Fx M p s m args meth c) (hK : va_K Y.1 zcl (ztys Y) s) {ls : Array Slot} {H : Heap} {locs : List Loc} (hL : LR Y.2.2 L M.2.2.1 ls) (hS : va_S (AA Y.2.2) s.heap H locs) {st0 : List Value} {a : Array Value}
    (hr : va_Run p l e (rmO M) s m args below meth c H locs 0 0 0 0 (F0 m pc ls st0) (rest.map (tr Y.2.2)) (QQ Y (fun r S' => Wp M (pc + 3) L (r.toList ++ rest) S' Z) a) (AA Y.2.2)) : W p l e (rmO M) s m args below meth c H locs 0 0 (MQ below (QQ Y Z) args s 0 0 (AA Y.2.2)) (F0 m pc ls st0) := by
  intro T hT X1
  obtain ⟨v, st₀, t, T', L1, h0, X', hL1, e1, e2, ⟨⟨r, S', hv, hw, hP1⟩, hz, hk⟩, st⟩ := hr T hT X1
  have hv : v = r.map (tr Y.2.2) := Outcome.returned.inj hv
  subst hv
  rw [h0] at hz hk
  have hS1 : va_S (AA Y.2.2) s.heap T'.heap (locs ++ L1) := ⟨Nat.le_trans hS.1 (by rw [e1]; exact hz), fun q h1 h2 => by rw [e1, hk q (Nat.lt_of_lt_of_le h1 hS.1) h2]; exact hS.2.1 q h1 h2, fun q hq => by
      rcases List.mem_append.mp hq with h | h
      · exact hS.2.2 q h
      · exact hL1 q h⟩
  obtain ⟨t2, a1, b1⟩ := hw l Y hY p e s m args below meth c X hK ls T'.heap (locs ++ L1) hL (by rw [e1]; exact hP1) hS1 T' rfl X'
  refine ⟨t2, st t2 ?_, b1⟩
  have e3 : (r.toList ++ rest).map (tr Y.2.2) = (r.map (tr Y.2.2)).toList ++ rest.map (tr Y.2.2) := by
    rw [List.map_append]
    cases r <;> rfl
  rw [e3] at a1
  exact a1
theorem w_callV {M N : Mt} {pc : Nat} {L st : List Value} {S : St} {Z : Option Value → St → Prop} {idx b n ci : Nat} {T : u_T} {nf : Nat} (As rest : List Value) (hd : decode M.2.1 pc = .ok (.invokevirtual idx, 3)) (hl : LK M.1.cls idx N.1) (hf : MF N) (hm : MV N) (hp : NP N n) (hR : N.2.2.2.2.1 + 1 ≤ M.2.2.2.2.1 ∧ 8 + (N.2.2.1 + 11) + N.2.2.2.2.2 ≤ M.2.2.2.2.2) (hn : As.length = n) (hst : st = As.reverse ++ .ref b :: rest) (hc : ∀ v ∈ rest, v.category = 1) (hrl : rest.length ≤ 8) (hb : b < 204) (hk : kd b = 4 + ci) (hcl : zcl[ci]? = some (N.1.cls, T, nf))
    (h : Ev N (.ref b :: As) S (fun r S' => Wp M (pc + 3) L (r.toList ++ rest) S' Z)) : Wp M pc L st S Z := by
  intro l Y hY p e s m args below meth c X hK ls H locs hL hP hS
  have hwb := (wsf_at (Y := Y) (S := S) hb)
  rw [cel_obj hk] at hwb
  have hrec := va_recv hK hP hcl hwb
  have hM := h l Y hY
  have ok := X.2.2.2.2.2.1
  have hpre : PreV s H N.1.cls (Y.2.2 b) (PPc Y (.ref b :: As) S) (As.map (tr Y.2.2)) := ⟨PPc_blind _ _ _, hrec, fun U hU hW => ⟨rfl, by rw [hU]; exact hP, va_K.moved hW.alike hK, NW.warm hW X.2.2.2.2.2.2.2⟩⟩
  have hstk : (F0 m pc ls (st.map (tr Y.2.2))).stack = (As.map (tr Y.2.2)).reverse ++ .ref (Y.2.2 b) :: rest.map (tr Y.2.2) := by
    show st.map (tr Y.2.2) = _
    rw [hst, List.map_append, List.map_reverse]
    rfl
  have hw8 : 2 * (F0 m pc ls (st.map (tr Y.2.2))).monitorRoom + ((rest.map (tr Y.2.2)).map fun v => v.category).sum ≤ 8 := lv_room (by rw [tr_map_cat hc]; exact hrl)
  have hlen : (As.map (tr Y.2.2)).length = n := by rw [List.length_map]; exact hn
  refine w_back (rest := rest) (a := (Value.ref (Y.2.2 b) :: As.map (tr Y.2.2)).toArray) hY X hK hL hS ?_
  rcases hl with hl | ⟨host, hl⟩
  · exact va_runV (cc := M.2.1) (nL := M.2.2.1) (Ts := wsO M) (own := M.1.cls) (As := As.map (tr Y.2.2)) (rest := rest.map (tr Y.2.2)) ⟨X.1, X.2.1, X.2.2.2.1, X.2.2.2.2.1, ok⟩ hM ⟨callB_of n ok (good_in hf.1) rfl rfl rfl (ok _ (List.mem_cons_of_mem _ hf.2.1)) (ok _ (List.mem_cons_of_mem _ hl)) ⟨hf.2.2.1, hf.2.2.2.1, hp⟩ hR, ok _ (List.mem_cons_of_mem _ hm.1), ok _ (List.mem_cons_of_mem _ hm.2)⟩ hpre rfl hlen hL.2.1 hstk hw8 hd ⟨Nat.le_refl _, Nat.le_refl _⟩
  · exact va_runVN (cc := M.2.1) (nL := M.2.2.1) (Ts := wsO M) (own := M.1.cls) (As := As.map (tr Y.2.2)) (rest := rest.map (tr Y.2.2)) ⟨X.1, X.2.1, X.2.2.2.1, X.2.2.2.2.1, ok⟩ hM ⟨va_cnB n ok (good_in hf.1) rfl rfl rfl (X.2.2.2.2.2.2.2 _ hl) (ok _ (List.mem_cons_of_mem _ hf.2.1)) ⟨hf.2.2.1, hf.2.2.2.1, hp⟩ hR, ok _ (List.mem_cons_of_mem _ hm.1), ok _ (List.mem_cons_of_mem _ hm.2)⟩ hpre rfl hlen hL.2.1 hstk hw8 hd ⟨Nat.le_refl _, Nat.le_refl _⟩
theorem w_callS {M N : Mt} {pc : Nat} {L st : List Value} {S : St} {Z : Option Value → St → Prop} {idx n : Nat} (As rest : List Value) (hd : decode M.2.1 pc = .ok (.invokestatic idx, 3)) (hl : LK M.1.cls idx N.1) (hf : MF N) (hm : MS N) (hp : NP N n) (hR : N.2.2.2.2.1 + 1 ≤ M.2.2.2.2.1 ∧ 8 + (N.2.2.1 + 11) + N.2.2.2.2.2 ≤ M.2.2.2.2.2) (hn : As.length = n) (hst : st = As.reverse ++ rest) (hc : ∀ v ∈ rest, v.category = 1) (hrl : rest.length ≤ 8)
    (h : Ev N As S (fun r S' => Wp M (pc + 3) L (r.toList ++ rest) S' Z)) : Wp M pc L st S Z := by
  intro l Y hY p e s m args below meth c X hK ls H locs hL hP hS
  have hM := h l Y hY
  have ok := X.2.2.2.2.2.1
  have hpre : PreS s H (PPc Y As S) (As.map (tr Y.2.2)) := ⟨PPc_blind _ _ _, fun U hU hW => ⟨rfl, by rw [hU]; exact hP, va_K.moved hW.alike hK, NW.warm hW X.2.2.2.2.2.2.2⟩⟩
  have hstk : (F0 m pc ls (st.map (tr Y.2.2))).stack = (As.map (tr Y.2.2)).reverse ++ rest.map (tr Y.2.2) := by
    show st.map (tr Y.2.2) = _
    rw [hst, List.map_append, List.map_reverse]
  have hw8 : 2 * (F0 m pc ls (st.map (tr Y.2.2))).monitorRoom + ((rest.map (tr Y.2.2)).map fun v => v.category).sum ≤ 8 := lv_room (by rw [tr_map_cat hc]; exact hrl)
  have hlen : (As.map (tr Y.2.2)).length = n := by rw [List.length_map]; exact hn
  refine w_back (rest := rest) (a := (As.map (tr Y.2.2)).toArray) hY X hK hL hS ?_
  rcases hl with hl | ⟨host, hl⟩
  · exact va_runS (cc := M.2.1) (nL := M.2.2.1) (Ts := wsO M) (own := M.1.cls) (As := As.map (tr Y.2.2)) (rest := rest.map (tr Y.2.2)) ⟨X.1, X.2.1, X.2.2.2.1, X.2.2.2.2.1, ok⟩ hM ⟨callB_of n ok (good_in hf.1) rfl rfl rfl (ok _ (List.mem_cons_of_mem _ hf.2.1)) (ok _ (List.mem_cons_of_mem _ hl)) ⟨hf.2.2.1, hf.2.2.2.1, hp⟩ hR, ok _ (List.mem_cons_of_mem _ hm)⟩ hpre rfl hlen hL.2.1 hstk hw8 hd ⟨Nat.le_refl _, Nat.le_refl _⟩
  · exact va_runSN (cc := M.2.1) (nL := M.2.2.1) (Ts := wsO M) (own := M.1.cls) (As := As.map (tr Y.2.2)) (rest := rest.map (tr Y.2.2)) ⟨X.1, X.2.1, X.2.2.2.1, X.2.2.2.2.1, ok⟩ hM ⟨va_cnB n ok (good_in hf.1) rfl rfl rfl (X.2.2.2.2.2.2.2 _ hl) (ok _ (List.mem_cons_of_mem _ hf.2.1)) ⟨hf.2.2.1, hf.2.2.2.1, hp⟩ hR, ok _ (List.mem_cons_of_mem _ hm), trivial⟩ hpre rfl hlen hL.2.1 hstk hw8 hd ⟨Nat.le_refl _, Nat.le_refl _⟩
end
section
theorem nI_inc (a : Nat) : nI a + Int32.ofInt 1 = nI (a + 1) := nI_1 a
theorem nI_inc2 (a : Nat) : nI a + Int32.ofInt 2 = nI (a + 2) := nI_add a 2
theorem nI_dec (a : Nat) : nI (a + 1) + Int32.ofInt (-1) = nI a := pk_m1 a
theorem nI_decP {a : Nat} (h : 0 < a) : nI a + Int32.ofInt (-1) = nI (a - 1) := by
  obtain ⟨b, rfl⟩ : ∃ b, a = b + 1 := ⟨a - 1, by omega⟩
  exact nI_dec b
theorem w_iaddN {M : Mt} {pc : Nat} {L st : List Value} {S : St} {Z : Option Value → St → Prop} {a b : Nat} (hd : decode M.2.1 pc = .ok (.iadd, 1)) (h : Wp M (pc + 1) L (.int (nI (a + b)) :: st) S Z) : Wp M pc L (.int (nI b) :: .int (nI a) :: st) S Z := by
  exact w_iadd hd (by rw [nI_add]; exact h)
theorem w_imulN {M : Mt} {pc : Nat} {L st : List Value} {S : St} {Z : Option Value → St → Prop} {a b : Nat} (hd : decode M.2.1 pc = .ok (.imul, 1)) (h : Wp M (pc + 1) L (.int (nI (a * b)) :: st) S Z) : Wp M pc L (.int (nI b) :: .int (nI a) :: st) S Z := by
  exact w_imul hd (by rw [pk_mul]; exact h)
theorem w_isubN {M : Mt} {pc : Nat} {L st : List Value} {S : St} {Z : Option Value → St → Prop} {a b : Nat} (hd : decode M.2.1 pc = .ok (.isub, 1)) (hab : b ≤ a) (h : Wp M (pc + 1) L (.int (nI (a - b)) :: st) S Z) : Wp M pc L (.int (nI b) :: .int (nI a) :: st) S Z := by
  exact w_isub hd (by rw [pk_sub hab]; exact h)
theorem w_idivN {M : Mt} {pc : Nat} {L st : List Value} {S : St} {Z : Option Value → St → Prop} {a b : Nat} (hd : decode M.2.1 pc = .ok (.idiv, 1)) (ha : a < 2 ^ 31) (h0 : 0 < b) (hb : b < 2 ^ 31) (h : Wp M (pc + 1) L (.int (nI (a / b)) :: st) S Z) : Wp M pc L (.int (nI b) :: .int (nI a) :: st) S Z := by
  exact w_idiv hd (nI_ne0 h0 hb) (by rw [pk_div ha h0 hb]; exact h)
theorem w_iremN {M : Mt} {pc : Nat} {L st : List Value} {S : St} {Z : Option Value → St → Prop} {a b : Nat} (hd : decode M.2.1 pc = .ok (.irem, 1)) (ha : a < 2 ^ 31) (h0 : 0 < b) (hb : b < 2 ^ 31) (h : Wp M (pc + 1) L (.int (nI (a % b)) :: st) S Z) : Wp M pc L (.int (nI b) :: .int (nI a) :: st) S Z := by
  exact w_irem hd (nI_ne0 h0 hb) (by rw [pk_rem ha h0 hb]; exact h)
theorem w_iincN {M : Mt} {pc : Nat} {L st : List Value} {S : St} {Z : Option Value → St → Prop} {k a : Nat} (hd : decode M.2.1 pc = .ok (.iinc k 1, 3)) (hl : L[k]? = some (.int (nI a))) (h : Wp M (pc + 3) (L.set k (.int (nI (a + 1)))) st S Z) : Wp M pc L (st) S Z := by
  exact w_iinc hd hl (nI_inc a) h
theorem w_iincN2 {M : Mt} {pc : Nat} {L st : List Value} {S : St} {Z : Option Value → St → Prop} {k a : Nat} (hd : decode M.2.1 pc = .ok (.iinc k 2, 3)) (hl : L[k]? = some (.int (nI a))) (h : Wp M (pc + 3) (L.set k (.int (nI (a + 2)))) st S Z) : Wp M pc L (st) S Z := by
  exact w_iinc hd hl (nI_inc2 a) h
theorem w_idecN {M : Mt} {pc : Nat} {L st : List Value} {S : St} {Z : Option Value → St → Prop} {k a : Nat} (hd : decode M.2.1 pc = .ok (.iinc k (-1), 3)) (hl : L[k]? = some (.int (nI a))) (h0 : 0 < a) (h : Wp M (pc + 3) (L.set k (.int (nI (a - 1)))) st S Z) : Wp M pc L (st) S Z := by
  exact w_iinc hd hl (nI_decP h0) h
theorem w_icmp_eqN {M : Mt} {pc : Nat} {L st : List Value} {S : St} {Z : Option Value → St → Prop} {a b : Nat} {off : Int} (tgt : Nat) (hd : decode M.2.1 pc = .ok (.if_icmp .eq off, 3)) (ht : (pc : Int) + off = (tgt : Int)) (ha : a < 2 ^ 31) (hb : b < 2 ^ 31) (ht1 : a = b → Wp M tgt L st S Z) (hf1 : a ≠ b → Wp M (pc + 3) L st S Z) : Wp M pc L (.int (nI b) :: .int (nI a) :: st) S Z := by
  exact w_icmp_eq tgt hd ht (fun q => ht1 ((nI_eq ha hb).mp q)) (fun q => hf1 (fun r => q ((nI_eq ha hb).mpr r)))
theorem w_icmp_neN {M : Mt} {pc : Nat} {L st : List Value} {S : St} {Z : Option Value → St → Prop} {a b : Nat} {off : Int} (tgt : Nat) (hd : decode M.2.1 pc = .ok (.if_icmp .ne off, 3)) (ht : (pc : Int) + off = (tgt : Int)) (ha : a < 2 ^ 31) (hb : b < 2 ^ 31) (ht1 : a ≠ b → Wp M tgt L st S Z) (hf1 : a = b → Wp M (pc + 3) L st S Z) : Wp M pc L (.int (nI b) :: .int (nI a) :: st) S Z := by
  exact w_icmp_ne tgt hd ht (fun q => ht1 (fun r => q ((nI_eq ha hb).mpr r))) (fun q => hf1 ((nI_eq ha hb).mp q))
theorem w_icmp_ltN {M : Mt} {pc : Nat} {L st : List Value} {S : St} {Z : Option Value → St → Prop} {a b : Nat} {off : Int} (tgt : Nat) (hd : decode M.2.1 pc = .ok (.if_icmp .lt off, 3)) (ht : (pc : Int) + off = (tgt : Int)) (ha : a < 2 ^ 31) (hb : b < 2 ^ 31) (ht1 : a < b → Wp M tgt L st S Z) (hf1 : b ≤ a → Wp M (pc + 3) L st S Z) : Wp M pc L (.int (nI b) :: .int (nI a) :: st) S Z := by
  exact w_icmp_lt tgt hd ht (fun q => ht1 ((nI_ltI ha hb).mp q)) (fun q => hf1 (Nat.not_lt.mp (fun r => q ((nI_ltI ha hb).mpr r))))
theorem w_icmp_geN {M : Mt} {pc : Nat} {L st : List Value} {S : St} {Z : Option Value → St → Prop} {a b : Nat} {off : Int} (tgt : Nat) (hd : decode M.2.1 pc = .ok (.if_icmp .ge off, 3)) (ht : (pc : Int) + off = (tgt : Int)) (ha : a < 2 ^ 31) (hb : b < 2 ^ 31) (ht1 : b ≤ a → Wp M tgt L st S Z) (hf1 : a < b → Wp M (pc + 3) L st S Z) : Wp M pc L (.int (nI b) :: .int (nI a) :: st) S Z := by
  exact w_icmp_ge tgt hd ht (fun q => ht1 ((nI_leI hb ha).mp q)) (fun q => hf1 (Nat.not_le.mp (fun r => q ((nI_leI hb ha).mpr r))))
theorem w_icmp_gtN {M : Mt} {pc : Nat} {L st : List Value} {S : St} {Z : Option Value → St → Prop} {a b : Nat} {off : Int} (tgt : Nat) (hd : decode M.2.1 pc = .ok (.if_icmp .gt off, 3)) (ht : (pc : Int) + off = (tgt : Int)) (ha : a < 2 ^ 31) (hb : b < 2 ^ 31) (ht1 : b < a → Wp M tgt L st S Z) (hf1 : a ≤ b → Wp M (pc + 3) L st S Z) : Wp M pc L (.int (nI b) :: .int (nI a) :: st) S Z := by
  exact w_icmp_gt tgt hd ht (fun q => ht1 ((nI_ltI hb ha).mp q)) (fun q => hf1 (Nat.not_lt.mp (fun r => q ((nI_ltI hb ha).mpr r))))
theorem w_icmp_leN {M : Mt} {pc : Nat} {L st : List Value} {S : St} {Z : Option Value → St → Prop} {a b : Nat} {off : Int} (tgt : Nat) (hd : decode M.2.1 pc = .ok (.if_icmp .le off, 3)) (ht : (pc : Int) + off = (tgt : Int)) (ha : a < 2 ^ 31) (hb : b < 2 ^ 31) (ht1 : a ≤ b → Wp M tgt L st S Z) (hf1 : b < a → Wp M (pc + 3) L st S Z) : Wp M pc L (.int (nI b) :: .int (nI a) :: st) S Z := by
  exact w_icmp_le tgt hd ht (fun q => ht1 ((nI_leI ha hb).mp q)) (fun q => hf1 (Nat.not_le.mp (fun r => q ((nI_leI ha hb).mpr r))))
theorem w_if_eqN {M : Mt} {pc : Nat} {L st : List Value} {S : St} {Z : Option Value → St → Prop} {a : Nat} {off : Int} (tgt : Nat) (hd : decode M.2.1 pc = .ok (.ifCond .eq off, 3)) (ht : (pc : Int) + off = (tgt : Int)) (ha : a < 2 ^ 31) (ht1 : a = 0 → Wp M tgt L st S Z) (hf1 : a ≠ 0 → Wp M (pc + 3) L st S Z) : Wp M pc L (.int (nI a) :: st) S Z := by
  exact w_if_eq tgt hd ht (fun q => ht1 ((nI_eq ha (show 0 < 2 ^ 31 by decide)).mp q)) (fun q => hf1 (fun r => q ((nI_eq ha (show 0 < 2 ^ 31 by decide)).mpr r)))
theorem w_if_neN {M : Mt} {pc : Nat} {L st : List Value} {S : St} {Z : Option Value → St → Prop} {a : Nat} {off : Int} (tgt : Nat) (hd : decode M.2.1 pc = .ok (.ifCond .ne off, 3)) (ht : (pc : Int) + off = (tgt : Int)) (ha : a < 2 ^ 31) (ht1 : a ≠ 0 → Wp M tgt L st S Z) (hf1 : a = 0 → Wp M (pc + 3) L st S Z) : Wp M pc L (.int (nI a) :: st) S Z := by
  exact w_if_ne tgt hd ht (fun q => ht1 (fun r => q ((nI_eq ha (show 0 < 2 ^ 31 by decide)).mpr r))) (fun q => hf1 ((nI_eq ha (show 0 < 2 ^ 31 by decide)).mp q))
theorem w_if_ltN {M : Mt} {pc : Nat} {L st : List Value} {S : St} {Z : Option Value → St → Prop} {a : Nat} {off : Int} (tgt : Nat) (hd : decode M.2.1 pc = .ok (.ifCond .lt off, 3)) (ht : (pc : Int) + off = (tgt : Int)) (ha : a < 2 ^ 31) (ht1 : a < 0 → Wp M tgt L st S Z) (hf1 : 0 ≤ a → Wp M (pc + 3) L st S Z) : Wp M pc L (.int (nI a) :: st) S Z := by
  exact w_if_lt tgt hd ht (fun q => ht1 ((nI_ltI ha (show 0 < 2 ^ 31 by decide)).mp q)) (fun q => hf1 (Nat.not_lt.mp (fun r => q ((nI_ltI ha (show 0 < 2 ^ 31 by decide)).mpr r))))
theorem w_if_geN {M : Mt} {pc : Nat} {L st : List Value} {S : St} {Z : Option Value → St → Prop} {a : Nat} {off : Int} (tgt : Nat) (hd : decode M.2.1 pc = .ok (.ifCond .ge off, 3)) (ht : (pc : Int) + off = (tgt : Int)) (ha : a < 2 ^ 31) (ht1 : 0 ≤ a → Wp M tgt L st S Z) (hf1 : a < 0 → Wp M (pc + 3) L st S Z) : Wp M pc L (.int (nI a) :: st) S Z := by
  exact w_if_ge tgt hd ht (fun q => ht1 ((nI_leI (show 0 < 2 ^ 31 by decide) ha).mp q)) (fun q => hf1 (Nat.not_le.mp (fun r => q ((nI_leI (show 0 < 2 ^ 31 by decide) ha).mpr r))))
theorem w_if_gtN {M : Mt} {pc : Nat} {L st : List Value} {S : St} {Z : Option Value → St → Prop} {a : Nat} {off : Int} (tgt : Nat) (hd : decode M.2.1 pc = .ok (.ifCond .gt off, 3)) (ht : (pc : Int) + off = (tgt : Int)) (ha : a < 2 ^ 31) (ht1 : 0 < a → Wp M tgt L st S Z) (hf1 : a ≤ 0 → Wp M (pc + 3) L st S Z) : Wp M pc L (.int (nI a) :: st) S Z := by
  exact w_if_gt tgt hd ht (fun q => ht1 ((nI_ltI (show 0 < 2 ^ 31 by decide) ha).mp q)) (fun q => hf1 (Nat.not_lt.mp (fun r => q ((nI_ltI (show 0 < 2 ^ 31 by decide) ha).mpr r))))
theorem w_if_leN {M : Mt} {pc : Nat} {L st : List Value} {S : St} {Z : Option Value → St → Prop} {a : Nat} {off : Int} (tgt : Nat) (hd : decode M.2.1 pc = .ok (.ifCond .le off, 3)) (ht : (pc : Int) + off = (tgt : Int)) (ha : a < 2 ^ 31) (ht1 : a ≤ 0 → Wp M tgt L st S Z) (hf1 : 0 < a → Wp M (pc + 3) L st S Z) : Wp M pc L (.int (nI a) :: st) S Z := by
  exact w_if_le tgt hd ht (fun q => ht1 ((nI_leI ha (show 0 < 2 ^ 31 by decide)).mp q)) (fun q => hf1 (Nat.not_le.mp (fun r => q ((nI_leI ha (show 0 < 2 ^ 31 by decide)).mpr r))))
theorem w_getR {M : Mt} {pc : Nat} {L st : List Value} {S : St} {Z : Option Value → St → Prop} {idx ci k a d : Nat} (hd : decode M.2.1 pc = .ok (.getfield idx, 3)) (hf : FL M.1.cls idx ci k) (ha : a < 204) (hk : kd a = 4 + ci) (hv : fref a k = some d) (h : Wp M (pc + 3) L (.ref d :: st) S Z) : Wp M pc L (.ref a :: st) S Z := w_get hd hf ha hk (by rw [hv]) h
theorem w_getI {M : Mt} {pc : Nat} {L st : List Value} {S : St} {Z : Option Value → St → Prop} {idx ci k a : Nat} (hd : decode M.2.1 pc = .ok (.getfield idx, 3)) (hf : FL M.1.cls idx ci k) (ha : a < 204) (hk : kd a = 4 + ci) (hv : fref a k = none) (h : Wp M (pc + 3) L (.int (S.1 a k) :: st) S Z) : Wp M pc L (.ref a :: st) S Z := w_get hd hf ha hk (by rw [hv]) h
theorem w_putI {M : Mt} {pc : Nat} {L st : List Value} {S : St} {Z : Option Value → St → Prop} {idx ci k a : Nat} {v : Int32} (hd : decode M.2.1 pc = .ok (.putfield idx, 3)) (hf : FL M.1.cls idx ci k) (hw : FW ci k .int) (ha : a < 204) (hk : kd a = 4 + ci) (hr : fref a k = none) (h : Wp M (pc + 3) L st (up2 S.1 a k v, S.2) Z) : Wp M pc L (.int v :: .ref a :: st) S Z := w_put hd hf hw ha hk hr (vp_nar_int v) rfl h
theorem w_putZ {M : Mt} {pc : Nat} {L st : List Value} {S : St} {Z : Option Value → St → Prop} {idx ci k a : Nat} {v : Int32} (hd : decode M.2.1 pc = .ok (.putfield idx, 3)) (hf : FL M.1.cls idx ci k) (hw : FW ci k .boolean) (ha : a < 204) (hk : kd a = 4 + ci) (hr : fref a k = none) (hv : v = 0 ∨ v = 1) (h : Wp M (pc + 3) L st (up2 S.1 a k v, S.2) Z) : Wp M pc L (.int v :: .ref a :: st) S Z := w_put hd hf hw ha hk hr (by rcases hv with rfl | rfl <;> decide +kernel) (by rcases hv with rfl | rfl <;> decide +kernel) h
/-- array accesses at a numbered place -/
theorem w_ialdN {M : Mt} {pc : Nat} {L st : List Value} {S : St} {Z : Option Value → St → Prop} {a n : Nat} (hd : decode M.2.1 pc = .ok (.iaload, 1)) (ha : a < 204) (hk : kd a = 0) (hn : n < ln a) (h : Wp M (pc + 1) L (.int (S.1 a n) :: st) S Z) : Wp M pc L (.int (nI n) :: .ref a :: st) S Z := w_iald hd rfl ha hk hn h
theorem w_baldN {M : Mt} {pc : Nat} {L st : List Value} {S : St} {Z : Option Value → St → Prop} {a n : Nat} (hd : decode M.2.1 pc = .ok (.baload, 1)) (ha : a < 204) (hk : kd a = 1) (hn : n < ln a) (h : Wp M (pc + 1) L (.int (S.1 a n) :: st) S Z) : Wp M pc L (.int (nI n) :: .ref a :: st) S Z := w_bald hd rfl ha hk hn h
theorem w_aaldN {M : Mt} {pc : Nat} {L st : List Value} {S : St} {Z : Option Value → St → Prop} {a n : Nat} (hd : decode M.2.1 pc = .ok (.aaload, 1)) (ha : a < 204) (hk : kd a = 2) (hn : n < ln a) (h : Wp M (pc + 1) L (.ref (gbase a + n) :: st) S Z) : Wp M pc L (.int (nI n) :: .ref a :: st) S Z := w_aald hd rfl ha hk hn h
theorem w_ealdN {M : Mt} {pc : Nat} {L st : List Value} {S : St} {Z : Option Value → St → Prop} {n : Nat} (hd : decode M.2.1 pc = .ok (.aaload, 1)) (hn : n < 20) (h : Wp M (pc + 1) L (.ref (S.2 n) :: st) S Z) : Wp M pc L (.int (nI n) :: .ref 19 :: st) S Z := w_eald hd rfl (by decide) (by decide) hn h
theorem w_iastN {M : Mt} {pc : Nat} {L st : List Value} {S : St} {Z : Option Value → St → Prop} {a n : Nat} {v : Int32} (hd : decode M.2.1 pc = .ok (.iastore, 1)) (ha : a < 204) (hk : kd a = 0) (hn : n < ln a) (h : Wp M (pc + 1) L st (up2 S.1 a n v, S.2) Z) : Wp M pc L (.int v :: .int (nI n) :: .ref a :: st) S Z := w_iast hd rfl ha hk hn h
theorem w_bastN {M : Mt} {pc : Nat} {L st : List Value} {S : St} {Z : Option Value → St → Prop} {a n : Nat} {v : Int32} (hd : decode M.2.1 pc = .ok (.bastore, 1)) (ha : a < 204) (hk : kd a = 1) (hn : n < ln a) (hv : v = 0 ∨ v = 1) (h : Wp M (pc + 1) L st (up2 S.1 a n v, S.2) Z) : Wp M pc L (.int v :: .int (nI n) :: .ref a :: st) S Z := w_bast hd rfl ha hk hn hv h
theorem w_eastN {M : Mt} {pc : Nat} {L st : List Value} {S : St} {Z : Option Value → St → Prop} {n b : Nat} (hd : decode M.2.1 pc = .ok (.aastore, 1)) (hn : n < 20) (hb1 : 124 ≤ b) (hb2 : b < 144) (h : Wp M (pc + 1) L st (S.1, upT S.2 n b) Z) : Wp M pc L (.ref b :: .int (nI n) :: .ref 19 :: st) S Z := w_east hd rfl hn hb1 hb2 h
theorem all_cat {r : List Value} (h : r.all (fun v => decide (v.category = 1)) = true) : ∀ v ∈ r, v.category = 1 := fun v hv => by
  have := List.all_eq_true.mp h v hv
  simpa using this
theorem w_callS1 {M N : Mt} {pc : Nat} {L rest : List Value} {S : St} {Z : Option Value → St → Prop} {idx : Nat} {a1 : Value} (hd : decode M.2.1 pc = .ok (.invokestatic idx, 3)) (hl : LK M.1.cls idx N.1) (hf : MF N) (hm : MS N) (hp : NP N 1) (hR : N.2.2.2.2.1 + 1 ≤ M.2.2.2.2.1 ∧ 8 + (N.2.2.1 + 11) + N.2.2.2.2.2 ≤ M.2.2.2.2.2) (hc : rest.all (fun v => decide (v.category = 1)) = true) (hrl : rest.length ≤ 8) (h : Ev N [a1] S (fun r S' => Wp M (pc + 3) L (r.toList ++ rest) S' Z)) : Wp M pc L (a1 :: rest) S Z := w_callS [a1] rest hd hl hf hm hp hR rfl rfl (all_cat hc) hrl h
theorem w_callS2 {M N : Mt} {pc : Nat} {L rest : List Value} {S : St} {Z : Option Value → St → Prop} {idx : Nat} {a1 a2 : Value} (hd : decode M.2.1 pc = .ok (.invokestatic idx, 3)) (hl : LK M.1.cls idx N.1) (hf : MF N) (hm : MS N) (hp : NP N 2) (hR : N.2.2.2.2.1 + 1 ≤ M.2.2.2.2.1 ∧ 8 + (N.2.2.1 + 11) + N.2.2.2.2.2 ≤ M.2.2.2.2.2) (hc : rest.all (fun v => decide (v.category = 1)) = true) (hrl : rest.length ≤ 8) (h : Ev N [a1, a2] S (fun r S' => Wp M (pc + 3) L (r.toList ++ rest) S' Z)) : Wp M pc L (a2 :: a1 :: rest) S Z := w_callS [a1, a2] rest hd hl hf hm hp hR rfl rfl (all_cat hc) hrl h
theorem w_callS3 {M N : Mt} {pc : Nat} {L rest : List Value} {S : St} {Z : Option Value → St → Prop} {idx : Nat} {a1 a2 a3 : Value} (hd : decode M.2.1 pc = .ok (.invokestatic idx, 3)) (hl : LK M.1.cls idx N.1) (hf : MF N) (hm : MS N) (hp : NP N 3) (hR : N.2.2.2.2.1 + 1 ≤ M.2.2.2.2.1 ∧ 8 + (N.2.2.1 + 11) + N.2.2.2.2.2 ≤ M.2.2.2.2.2) (hc : rest.all (fun v => decide (v.category = 1)) = true) (hrl : rest.length ≤ 8) (h : Ev N [a1, a2, a3] S (fun r S' => Wp M (pc + 3) L (r.toList ++ rest) S' Z)) : Wp M pc L (a3 :: a2 :: a1 :: rest) S Z := w_callS [a1, a2, a3] rest hd hl hf hm hp hR rfl rfl (all_cat hc) hrl h
theorem w_callS4 {M N : Mt} {pc : Nat} {L rest : List Value} {S : St} {Z : Option Value → St → Prop} {idx : Nat} {a1 a2 a3 a4 : Value} (hd : decode M.2.1 pc = .ok (.invokestatic idx, 3)) (hl : LK M.1.cls idx N.1) (hf : MF N) (hm : MS N) (hp : NP N 4) (hR : N.2.2.2.2.1 + 1 ≤ M.2.2.2.2.1 ∧ 8 + (N.2.2.1 + 11) + N.2.2.2.2.2 ≤ M.2.2.2.2.2) (hc : rest.all (fun v => decide (v.category = 1)) = true) (hrl : rest.length ≤ 8) (h : Ev N [a1, a2, a3, a4] S (fun r S' => Wp M (pc + 3) L (r.toList ++ rest) S' Z)) : Wp M pc L (a4 :: a3 :: a2 :: a1 :: rest) S Z := w_callS [a1, a2, a3, a4] rest hd hl hf hm hp hR rfl rfl (all_cat hc) hrl h
theorem w_callS5 {M N : Mt} {pc : Nat} {L rest : List Value} {S : St} {Z : Option Value → St → Prop} {idx : Nat} {a1 a2 a3 a4 a5 : Value} (hd : decode M.2.1 pc = .ok (.invokestatic idx, 3)) (hl : LK M.1.cls idx N.1) (hf : MF N) (hm : MS N) (hp : NP N 5) (hR : N.2.2.2.2.1 + 1 ≤ M.2.2.2.2.1 ∧ 8 + (N.2.2.1 + 11) + N.2.2.2.2.2 ≤ M.2.2.2.2.2) (hc : rest.all (fun v => decide (v.category = 1)) = true) (hrl : rest.length ≤ 8) (h : Ev N [a1, a2, a3, a4, a5] S (fun r S' => Wp M (pc + 3) L (r.toList ++ rest) S' Z)) : Wp M pc L (a5 :: a4 :: a3 :: a2 :: a1 :: rest) S Z := w_callS [a1, a2, a3, a4, a5] rest hd hl hf hm hp hR rfl rfl (all_cat hc) hrl h
theorem w_callS6 {M N : Mt} {pc : Nat} {L rest : List Value} {S : St} {Z : Option Value → St → Prop} {idx : Nat} {a1 a2 a3 a4 a5 a6 : Value} (hd : decode M.2.1 pc = .ok (.invokestatic idx, 3)) (hl : LK M.1.cls idx N.1) (hf : MF N) (hm : MS N) (hp : NP N 6) (hR : N.2.2.2.2.1 + 1 ≤ M.2.2.2.2.1 ∧ 8 + (N.2.2.1 + 11) + N.2.2.2.2.2 ≤ M.2.2.2.2.2) (hc : rest.all (fun v => decide (v.category = 1)) = true) (hrl : rest.length ≤ 8) (h : Ev N [a1, a2, a3, a4, a5, a6] S (fun r S' => Wp M (pc + 3) L (r.toList ++ rest) S' Z)) : Wp M pc L (a6 :: a5 :: a4 :: a3 :: a2 :: a1 :: rest) S Z := w_callS [a1, a2, a3, a4, a5, a6] rest hd hl hf hm hp hR rfl rfl (all_cat hc) hrl h
theorem w_callV0 {M N : Mt} {pc : Nat} {L rest : List Value} {S : St} {Z : Option Value → St → Prop} {idx b ci nf : Nat} {T : u_T}  (hd : decode M.2.1 pc = .ok (.invokevirtual idx, 3)) (hl : LK M.1.cls idx N.1) (hf : MF N) (hm : MV N) (hp : NP N 0) (hR : N.2.2.2.2.1 + 1 ≤ M.2.2.2.2.1 ∧ 8 + (N.2.2.1 + 11) + N.2.2.2.2.2 ≤ M.2.2.2.2.2) (hb : b < 204) (hk : kd b = 4 + ci) (hcl : zcl[ci]? = some (N.1.cls, T, nf)) (hc : rest.all (fun v => decide (v.category = 1)) = true) (hrl : rest.length ≤ 8) (h : Ev N [.ref b] S (fun r S' => Wp M (pc + 3) L (r.toList ++ rest) S' Z)) : Wp M pc L (.ref b :: rest) S Z := w_callV [] rest hd hl hf hm hp hR rfl rfl (all_cat hc) hrl hb hk hcl h
theorem w_callV1 {M N : Mt} {pc : Nat} {L rest : List Value} {S : St} {Z : Option Value → St → Prop} {idx b ci nf : Nat} {T : u_T} {a1 : Value} (hd : decode M.2.1 pc = .ok (.invokevirtual idx, 3)) (hl : LK M.1.cls idx N.1) (hf : MF N) (hm : MV N) (hp : NP N 1) (hR : N.2.2.2.2.1 + 1 ≤ M.2.2.2.2.1 ∧ 8 + (N.2.2.1 + 11) + N.2.2.2.2.2 ≤ M.2.2.2.2.2) (hb : b < 204) (hk : kd b = 4 + ci) (hcl : zcl[ci]? = some (N.1.cls, T, nf)) (hc : rest.all (fun v => decide (v.category = 1)) = true) (hrl : rest.length ≤ 8) (h : Ev N [.ref b, a1] S (fun r S' => Wp M (pc + 3) L (r.toList ++ rest) S' Z)) : Wp M pc L (a1 :: .ref b :: rest) S Z := w_callV [a1] rest hd hl hf hm hp hR rfl rfl (all_cat hc) hrl hb hk hcl h
theorem w_callV2 {M N : Mt} {pc : Nat} {L rest : List Value} {S : St} {Z : Option Value → St → Prop} {idx b ci nf : Nat} {T : u_T} {a1 a2 : Value} (hd : decode M.2.1 pc = .ok (.invokevirtual idx, 3)) (hl : LK M.1.cls idx N.1) (hf : MF N) (hm : MV N) (hp : NP N 2) (hR : N.2.2.2.2.1 + 1 ≤ M.2.2.2.2.1 ∧ 8 + (N.2.2.1 + 11) + N.2.2.2.2.2 ≤ M.2.2.2.2.2) (hb : b < 204) (hk : kd b = 4 + ci) (hcl : zcl[ci]? = some (N.1.cls, T, nf)) (hc : rest.all (fun v => decide (v.category = 1)) = true) (hrl : rest.length ≤ 8) (h : Ev N [.ref b, a1, a2] S (fun r S' => Wp M (pc + 3) L (r.toList ++ rest) S' Z)) : Wp M pc L (a2 :: a1 :: .ref b :: rest) S Z := w_callV [a1, a2] rest hd hl hf hm hp hR rfl rfl (all_cat hc) hrl hb hk hcl h
theorem w_callV3 {M N : Mt} {pc : Nat} {L rest : List Value} {S : St} {Z : Option Value → St → Prop} {idx b ci nf : Nat} {T : u_T} {a1 a2 a3 : Value} (hd : decode M.2.1 pc = .ok (.invokevirtual idx, 3)) (hl : LK M.1.cls idx N.1) (hf : MF N) (hm : MV N) (hp : NP N 3) (hR : N.2.2.2.2.1 + 1 ≤ M.2.2.2.2.1 ∧ 8 + (N.2.2.1 + 11) + N.2.2.2.2.2 ≤ M.2.2.2.2.2) (hb : b < 204) (hk : kd b = 4 + ci) (hcl : zcl[ci]? = some (N.1.cls, T, nf)) (hc : rest.all (fun v => decide (v.category = 1)) = true) (hrl : rest.length ≤ 8) (h : Ev N [.ref b, a1, a2, a3] S (fun r S' => Wp M (pc + 3) L (r.toList ++ rest) S' Z)) : Wp M pc L (a3 :: a2 :: a1 :: .ref b :: rest) S Z := w_callV [a1, a2, a3] rest hd hl hf hm hp hR rfl rfl (all_cat hc) hrl hb hk hcl h
theorem w_callV4 {M N : Mt} {pc : Nat} {L rest : List Value} {S : St} {Z : Option Value → St → Prop} {idx b ci nf : Nat} {T : u_T} {a1 a2 a3 a4 : Value} (hd : decode M.2.1 pc = .ok (.invokevirtual idx, 3)) (hl : LK M.1.cls idx N.1) (hf : MF N) (hm : MV N) (hp : NP N 4) (hR : N.2.2.2.2.1 + 1 ≤ M.2.2.2.2.1 ∧ 8 + (N.2.2.1 + 11) + N.2.2.2.2.2 ≤ M.2.2.2.2.2) (hb : b < 204) (hk : kd b = 4 + ci) (hcl : zcl[ci]? = some (N.1.cls, T, nf)) (hc : rest.all (fun v => decide (v.category = 1)) = true) (hrl : rest.length ≤ 8) (h : Ev N [.ref b, a1, a2, a3, a4] S (fun r S' => Wp M (pc + 3) L (r.toList ++ rest) S' Z)) : Wp M pc L (a4 :: a3 :: a2 :: a1 :: .ref b :: rest) S Z := w_callV [a1, a2, a3, a4] rest hd hl hf hm hp hR rfl rfl (all_cat hc) hrl hb hk hcl h
theorem w_callV5 {M N : Mt} {pc : Nat} {L rest : List Value} {S : St} {Z : Option Value → St → Prop} {idx b ci nf : Nat} {T : u_T} {a1 a2 a3 a4 a5 : Value} (hd : decode M.2.1 pc = .ok (.invokevirtual idx, 3)) (hl : LK M.1.cls idx N.1) (hf : MF N) (hm : MV N) (hp : NP N 5) (hR : N.2.2.2.2.1 + 1 ≤ M.2.2.2.2.1 ∧ 8 + (N.2.2.1 + 11) + N.2.2.2.2.2 ≤ M.2.2.2.2.2) (hb : b < 204) (hk : kd b = 4 + ci) (hcl : zcl[ci]? = some (N.1.cls, T, nf)) (hc : rest.all (fun v => decide (v.category = 1)) = true) (hrl : rest.length ≤ 8) (h : Ev N [.ref b, a1, a2, a3, a4, a5] S (fun r S' => Wp M (pc + 3) L (r.toList ++ rest) S' Z)) : Wp M pc L (a5 :: a4 :: a3 :: a2 :: a1 :: .ref b :: rest) S Z := w_callV [a1, a2, a3, a4, a5] rest hd hl hf hm hp hR rfl rfl (all_cat hc) hrl hb hk hcl h
theorem Ev.det {N : Mt} {As : List Value} {S S0 : St} {r0 : Option Value} {Z : Option Value → St → Prop} (h : Ev N As S (fun r S' => r = r0 ∧ S' = S0)) (k : Z r0 S0) : Ev N As S Z := h.mono (fun r S' q => by obtain ⟨rfl, rfl⟩ := q; exact k)
end
section
theorem MF_q_turn : MF M_q_turn := ⟨tb 252 (by decide +kernel) rfl, tb 1 (by decide +kernel) rfl, by decide +kernel, by decide +kernel, by decide +kernel⟩
theorem MV_q_turn : MV M_q_turn := ⟨tb 250 (by decide +kernel) rfl, tb 251 (by decide +kernel) rfl⟩
theorem NP_q_turn : NP M_q_turn 4 := by decide +kernel
theorem MF_t_allows : MF M_t_allows := ⟨tb 255 (by decide +kernel) rfl, tb 2 (by decide +kernel) rfl, by decide +kernel, by decide +kernel, by decide +kernel⟩
theorem MS_t_allows : MS M_t_allows := tb 254 (by decide +kernel) rfl
theorem NP_t_allows : NP M_t_allows 4 := by decide +kernel
theorem MF_t_isStep : MF M_t_isStep := ⟨tb 258 (by decide +kernel) rfl, tb 2 (by decide +kernel) rfl, by decide +kernel, by decide +kernel, by decide +kernel⟩
theorem MS_t_isStep : MS M_t_isStep := tb 257 (by decide +kernel) rfl
theorem NP_t_isStep : NP M_t_isStep 1 := by decide +kernel
theorem MF_q_isWithin : MF M_q_isWithin := ⟨tb 261 (by decide +kernel) rfl, tb 1 (by decide +kernel) rfl, by decide +kernel, by decide +kernel, by decide +kernel⟩
theorem MS_q_isWithin : MS M_q_isWithin := tb 260 (by decide +kernel) rfl
theorem NP_q_isWithin : NP M_q_isWithin 3 := by decide +kernel
theorem MF_t_axisBit : MF M_t_axisBit := ⟨tb 264 (by decide +kernel) rfl, tb 2 (by decide +kernel) rfl, by decide +kernel, by decide +kernel, by decide +kernel⟩
theorem MS_t_axisBit : MS M_t_axisBit := tb 263 (by decide +kernel) rfl
theorem NP_t_axisBit : NP M_t_axisBit 1 := by decide +kernel
theorem MF_j_abs : MF M_j_abs := ⟨tb 267 (by decide +kernel) rfl, tb 11 (by decide +kernel) rfl, by decide +kernel, by decide +kernel, by decide +kernel⟩
theorem MS_j_abs : MS M_j_abs := tb 266 (by decide +kernel) rfl
theorem NP_j_abs : NP M_j_abs 1 := by decide +kernel
theorem MF_t_become : MF M_t_become := ⟨tb 271 (by decide +kernel) rfl, tb 2 (by decide +kernel) rfl, by decide +kernel, by decide +kernel, by decide +kernel⟩
theorem MV_t_become : MV M_t_become := ⟨tb 269 (by decide +kernel) rfl, tb 270 (by decide +kernel) rfl⟩
theorem NP_t_become : NP M_t_become 4 := by decide +kernel
theorem MF_q_setPoint : MF M_q_setPoint := ⟨tb 274 (by decide +kernel) rfl, tb 1 (by decide +kernel) rfl, by decide +kernel, by decide +kernel, by decide +kernel⟩
theorem MS_q_setPoint : MS M_q_setPoint := tb 273 (by decide +kernel) rfl
theorem NP_q_setPoint : NP M_q_setPoint 5 := by decide +kernel
theorem MF_q_sample : MF M_q_sample := ⟨tb 278 (by decide +kernel) rfl, tb 1 (by decide +kernel) rfl, by decide +kernel, by decide +kernel, by decide +kernel⟩
theorem MV_q_sample : MV M_q_sample := ⟨tb 276 (by decide +kernel) rfl, tb 277 (by decide +kernel) rfl⟩
theorem NP_q_sample : NP M_q_sample 4 := by decide +kernel
theorem MF_q_isBad : MF M_q_isBad := ⟨tb 281 (by decide +kernel) rfl, tb 1 (by decide +kernel) rfl, by decide +kernel, by decide +kernel, by decide +kernel⟩
theorem MS_q_isBad : MS M_q_isBad := tb 280 (by decide +kernel) rfl
theorem NP_q_isBad : NP M_q_isBad 4 := by decide +kernel
theorem MF_q_train : MF M_q_train := ⟨tb 287 (by decide +kernel) rfl, tb 1 (by decide +kernel) rfl, by decide +kernel, by decide +kernel, by decide +kernel⟩
theorem MV_q_train : MV M_q_train := ⟨tb 285 (by decide +kernel) rfl, tb 286 (by decide +kernel) rfl⟩
theorem NP_q_train : NP M_q_train 4 := by decide +kernel
theorem MF_z_become : MF M_z_become := ⟨tb 291 (by decide +kernel) rfl, tb 5 (by decide +kernel) rfl, by decide +kernel, by decide +kernel, by decide +kernel⟩
theorem MV_z_become : MV M_z_become := ⟨tb 289 (by decide +kernel) rfl, tb 290 (by decide +kernel) rfl⟩
theorem NP_z_become : NP M_z_become 3 := by decide +kernel
theorem MF_q_learnCentres : MF M_q_learnCentres := ⟨tb 295 (by decide +kernel) rfl, tb 1 (by decide +kernel) rfl, by decide +kernel, by decide +kernel, by decide +kernel⟩
theorem MV_q_learnCentres : MV M_q_learnCentres := ⟨tb 294 (by decide +kernel) rfl, tbs (n := 7) 0 (by decide +kernel)⟩
theorem NP_q_learnCentres : NP M_q_learnCentres 1 := by decide +kernel
theorem MF_t_apply : MF M_t_apply := ⟨tb 299 (by decide +kernel) rfl, tb 2 (by decide +kernel) rfl, by decide +kernel, by decide +kernel, by decide +kernel⟩
theorem MV_t_apply : MV M_t_apply := ⟨tb 297 (by decide +kernel) rfl, tb 298 (by decide +kernel) rfl⟩
theorem NP_t_apply : NP M_t_apply 2 := by decide +kernel
theorem MF_c_cluster : MF M_c_cluster := ⟨tb 303 (by decide +kernel) rfl, tb 4 (by decide +kernel) rfl, by decide +kernel, by decide +kernel, by decide +kernel⟩
theorem MV_c_cluster : MV M_c_cluster := ⟨tb 301 (by decide +kernel) rfl, tb 302 (by decide +kernel) rfl⟩
theorem NP_c_cluster : NP M_c_cluster 4 := by decide +kernel
theorem MF_c_chooseCentres : MF M_c_chooseCentres := ⟨tb 307 (by decide +kernel) rfl, tb 4 (by decide +kernel) rfl, by decide +kernel, by decide +kernel, by decide +kernel⟩
theorem MV_c_chooseCentres : MV M_c_chooseCentres := ⟨tb 306 (by decide +kernel) rfl, tbs (n := 9) 1 (by decide +kernel)⟩
theorem NP_c_chooseCentres : NP M_c_chooseCentres 0 := by decide +kernel
theorem MF_c_beginCentre : MF M_c_beginCentre := ⟨tb 311 (by decide +kernel) rfl, tb 4 (by decide +kernel) rfl, by decide +kernel, by decide +kernel, by decide +kernel⟩
theorem MV_c_beginCentre : MV M_c_beginCentre := ⟨tb 310 (by decide +kernel) rfl, tbs (n := 9) 2 (by decide +kernel)⟩
theorem NP_c_beginCentre : NP M_c_beginCentre 2 := by decide +kernel
theorem MF_c_farthestItem : MF M_c_farthestItem := ⟨tb 315 (by decide +kernel) rfl, tb 4 (by decide +kernel) rfl, by decide +kernel, by decide +kernel, by decide +kernel⟩
theorem MV_c_farthestItem : MV M_c_farthestItem := ⟨tb 314 (by decide +kernel) rfl, tbs (n := 9) 3 (by decide +kernel)⟩
theorem NP_c_farthestItem : NP M_c_farthestItem 1 := by decide +kernel
theorem MF_q_nearestRow : MF M_q_nearestRow := ⟨tb 318 (by decide +kernel) rfl, tb 1 (by decide +kernel) rfl, by decide +kernel, by decide +kernel, by decide +kernel⟩
theorem MS_q_nearestRow : MS M_q_nearestRow := tb 317 (by decide +kernel) rfl
theorem NP_q_nearestRow : NP M_q_nearestRow 6 := by decide +kernel
theorem MF_q_distance : MF M_q_distance := ⟨tb 321 (by decide +kernel) rfl, tb 1 (by decide +kernel) rfl, by decide +kernel, by decide +kernel, by decide +kernel⟩
theorem MS_q_distance : MS M_q_distance := tb 320 (by decide +kernel) rfl
theorem NP_q_distance : NP M_q_distance 4 := by decide +kernel
theorem MF_c_countMembers : MF M_c_countMembers := ⟨tb 326 (by decide +kernel) rfl, tb 4 (by decide +kernel) rfl, by decide +kernel, by decide +kernel, by decide +kernel⟩
theorem MV_c_countMembers : MV M_c_countMembers := ⟨tb 325 (by decide +kernel) rfl, tbs (n := 9) 4 (by decide +kernel)⟩
theorem NP_c_countMembers : NP M_c_countMembers 0 := by decide +kernel
theorem MF_c_moveToMeans : MF M_c_moveToMeans := ⟨tb 330 (by decide +kernel) rfl, tb 4 (by decide +kernel) rfl, by decide +kernel, by decide +kernel, by decide +kernel⟩
theorem MV_c_moveToMeans : MV M_c_moveToMeans := ⟨tb 329 (by decide +kernel) rfl, tbs (n := 9) 5 (by decide +kernel)⟩
theorem NP_c_moveToMeans : NP M_c_moveToMeans 0 := by decide +kernel
theorem MF_j_floorDiv : MF M_j_floorDiv := ⟨tb 333 (by decide +kernel) rfl, tb 11 (by decide +kernel) rfl, by decide +kernel, by decide +kernel, by decide +kernel⟩
theorem MS_j_floorDiv : MS M_j_floorDiv := tb 332 (by decide +kernel) rfl
theorem NP_j_floorDiv : NP M_j_floorDiv 2 := by decide +kernel
theorem MF_c_fillEmptyCentres : MF M_c_fillEmptyCentres := ⟨tb 337 (by decide +kernel) rfl, tb 4 (by decide +kernel) rfl, by decide +kernel, by decide +kernel, by decide +kernel⟩
theorem MV_c_fillEmptyCentres : MV M_c_fillEmptyCentres := ⟨tb 336 (by decide +kernel) rfl, tbs (n := 9) 6 (by decide +kernel)⟩
theorem NP_c_fillEmptyCentres : NP M_c_fillEmptyCentres 0 := by decide +kernel
theorem MF_c_greatestShare : MF M_c_greatestShare := ⟨tb 341 (by decide +kernel) rfl, tb 4 (by decide +kernel) rfl, by decide +kernel, by decide +kernel, by decide +kernel⟩
theorem MV_c_greatestShare : MV M_c_greatestShare := ⟨tb 340 (by decide +kernel) rfl, tbs (n := 9) 7 (by decide +kernel)⟩
theorem NP_c_greatestShare : NP M_c_greatestShare 0 := by decide +kernel
theorem MF_c_splitInto : MF M_c_splitInto := ⟨tb 345 (by decide +kernel) rfl, tb 4 (by decide +kernel) rfl, by decide +kernel, by decide +kernel, by decide +kernel⟩
theorem MV_c_splitInto : MV M_c_splitInto := ⟨tb 344 (by decide +kernel) rfl, tbs (n := 9) 8 (by decide +kernel)⟩
theorem NP_c_splitInto : NP M_c_splitInto 2 := by decide +kernel
theorem MF_c_giveCentres : MF M_c_giveCentres := ⟨tb 349 (by decide +kernel) rfl, tb 4 (by decide +kernel) rfl, by decide +kernel, by decide +kernel, by decide +kernel⟩
theorem MV_c_giveCentres : MV M_c_giveCentres := ⟨tb 347 (by decide +kernel) rfl, tb 348 (by decide +kernel) rfl⟩
theorem NP_c_giveCentres : NP M_c_giveCentres 2 := by decide +kernel
theorem MF_q_keepWhatIsLeft : MF M_q_keepWhatIsLeft := ⟨tb 353 (by decide +kernel) rfl, tb 1 (by decide +kernel) rfl, by decide +kernel, by decide +kernel, by decide +kernel⟩
theorem MV_q_keepWhatIsLeft : MV M_q_keepWhatIsLeft := ⟨tb 352 (by decide +kernel) rfl, tbs (n := 7) 9 (by decide +kernel)⟩
theorem NP_q_keepWhatIsLeft : NP M_q_keepWhatIsLeft 0 := by decide +kernel
theorem MF_z_nearestList : MF M_z_nearestList := ⟨tb 357 (by decide +kernel) rfl, tb 5 (by decide +kernel) rfl, by decide +kernel, by decide +kernel, by decide +kernel⟩
theorem MV_z_nearestList : MV M_z_nearestList := ⟨tb 355 (by decide +kernel) rfl, tb 356 (by decide +kernel) rfl⟩
theorem NP_z_nearestList : NP M_z_nearestList 1 := by decide +kernel
theorem MF_q_subtract : MF M_q_subtract := ⟨tb 361 (by decide +kernel) rfl, tb 1 (by decide +kernel) rfl, by decide +kernel, by decide +kernel, by decide +kernel⟩
theorem MS_q_subtract : MS M_q_subtract := tb 360 (by decide +kernel) rfl
theorem NP_q_subtract : NP M_q_subtract 3 := by decide +kernel
theorem MF_q_learnWords : MF M_q_learnWords := ⟨tb 365 (by decide +kernel) rfl, tb 1 (by decide +kernel) rfl, by decide +kernel, by decide +kernel, by decide +kernel⟩
theorem MV_q_learnWords : MV M_q_learnWords := ⟨tb 364 (by decide +kernel) rfl, tbs (n := 7) 10 (by decide +kernel)⟩
theorem NP_q_learnWords : NP M_q_learnWords 1 := by decide +kernel
theorem MF_q_partWidthOf : MF M_q_partWidthOf := ⟨tb 368 (by decide +kernel) rfl, tb 1 (by decide +kernel) rfl, by decide +kernel, by decide +kernel, by decide +kernel⟩
theorem MS_q_partWidthOf : MS M_q_partWidthOf := tb 367 (by decide +kernel) rfl
theorem NP_q_partWidthOf : NP M_q_partWidthOf 1 := by decide +kernel
theorem MF_q_partsOf : MF M_q_partsOf := ⟨tb 371 (by decide +kernel) rfl, tb 1 (by decide +kernel) rfl, by decide +kernel, by decide +kernel, by decide +kernel⟩
theorem MS_q_partsOf : MS M_q_partsOf := tb 370 (by decide +kernel) rfl
theorem NP_q_partsOf : NP M_q_partsOf 1 := by decide +kernel
theorem MF_q_wordRow : MF M_q_wordRow := ⟨tb 374 (by decide +kernel) rfl, tb 1 (by decide +kernel) rfl, by decide +kernel, by decide +kernel, by decide +kernel⟩
theorem MS_q_wordRow : MS M_q_wordRow := tb 373 (by decide +kernel) rfl
theorem NP_q_wordRow : NP M_q_wordRow 2 := by decide +kernel
theorem MF_c_least : MF M_c_least := ⟨tb 378 (by decide +kernel) rfl, tb 4 (by decide +kernel) rfl, by decide +kernel, by decide +kernel, by decide +kernel⟩
theorem MV_c_least : MV M_c_least := ⟨tb 376 (by decide +kernel) rfl, tb 377 (by decide +kernel) rfl⟩
theorem NP_c_least : NP M_c_least 1 := by decide +kernel
theorem MF_j_min : MF M_j_min := ⟨tb 381 (by decide +kernel) rfl, tb 11 (by decide +kernel) rfl, by decide +kernel, by decide +kernel, by decide +kernel⟩
theorem MS_j_min : MS M_j_min := tb 380 (by decide +kernel) rfl
theorem NP_j_min : NP M_j_min 2 := by decide +kernel
theorem MF_c_greatest : MF M_c_greatest := ⟨tb 385 (by decide +kernel) rfl, tb 4 (by decide +kernel) rfl, by decide +kernel, by decide +kernel, by decide +kernel⟩
theorem MV_c_greatest : MV M_c_greatest := ⟨tb 383 (by decide +kernel) rfl, tb 384 (by decide +kernel) rfl⟩
theorem NP_c_greatest : NP M_c_greatest 1 := by decide +kernel
theorem MF_j_max : MF M_j_max := ⟨tb 388 (by decide +kernel) rfl, tb 11 (by decide +kernel) rfl, by decide +kernel, by decide +kernel, by decide +kernel⟩
theorem MS_j_max : MS M_j_max := tb 387 (by decide +kernel) rfl
theorem NP_j_max : NP M_j_max 2 := by decide +kernel
theorem MF_z_spreadWords : MF M_z_spreadWords := ⟨tb 392 (by decide +kernel) rfl, tb 5 (by decide +kernel) rfl, by decide +kernel, by decide +kernel, by decide +kernel⟩
theorem MV_z_spreadWords : MV M_z_spreadWords := ⟨tb 390 (by decide +kernel) rfl, tb 391 (by decide +kernel) rfl⟩
theorem NP_z_spreadWords : NP M_z_spreadWords 3 := by decide +kernel
theorem MF_q_trainingError : MF M_q_trainingError := ⟨tb 397 (by decide +kernel) rfl, tb 1 (by decide +kernel) rfl, by decide +kernel, by decide +kernel, by decide +kernel⟩
theorem MV_q_trainingError : MV M_q_trainingError := ⟨tb 396 (by decide +kernel) rfl, tbs (n := 7) 11 (by decide +kernel)⟩
theorem NP_q_trainingError : NP M_q_trainingError 0 := by decide +kernel
theorem MF_z_nearestWord : MF M_z_nearestWord := ⟨tb 401 (by decide +kernel) rfl, tb 5 (by decide +kernel) rfl, by decide +kernel, by decide +kernel, by decide +kernel⟩
theorem MV_z_nearestWord : MV M_z_nearestWord := ⟨tb 399 (by decide +kernel) rfl, tb 400 (by decide +kernel) rfl⟩
theorem NP_z_nearestWord : NP M_z_nearestWord 2 := by decide +kernel
theorem MF_z_wordDistance : MF M_z_wordDistance := ⟨tb 406 (by decide +kernel) rfl, tb 5 (by decide +kernel) rfl, by decide +kernel, by decide +kernel, by decide +kernel⟩
theorem MV_z_wordDistance : MV M_z_wordDistance := ⟨tb 404 (by decide +kernel) rfl, tb 405 (by decide +kernel) rfl⟩
theorem NP_z_wordDistance : NP M_z_wordDistance 3 := by decide +kernel
theorem MF_q_centre : MF M_q_centre := ⟨tb 411 (by decide +kernel) rfl, tb 1 (by decide +kernel) rfl, by decide +kernel, by decide +kernel, by decide +kernel⟩
theorem MV_q_centre : MV M_q_centre := ⟨tb 409 (by decide +kernel) rfl, tb 410 (by decide +kernel) rfl⟩
theorem NP_q_centre : NP M_q_centre 2 := by decide +kernel
theorem MF_z_hasList : MF M_z_hasList := ⟨tb 415 (by decide +kernel) rfl, tb 5 (by decide +kernel) rfl, by decide +kernel, by decide +kernel, by decide +kernel⟩
theorem MV_z_hasList : MV M_z_hasList := ⟨tb 413 (by decide +kernel) rfl, tb 414 (by decide +kernel) rfl⟩
theorem NP_z_hasList : NP M_z_hasList 1 := by decide +kernel
theorem MF_q_word : MF M_q_word := ⟨tb 420 (by decide +kernel) rfl, tb 1 (by decide +kernel) rfl, by decide +kernel, by decide +kernel, by decide +kernel⟩
theorem MV_q_word : MV M_q_word := ⟨tb 418 (by decide +kernel) rfl, tb 419 (by decide +kernel) rfl⟩
theorem NP_q_word : NP M_q_word 3 := by decide +kernel
theorem MF_z_hasWord : MF M_z_hasWord := ⟨tb 424 (by decide +kernel) rfl, tb 5 (by decide +kernel) rfl, by decide +kernel, by decide +kernel, by decide +kernel⟩
theorem MV_z_hasWord : MV M_z_hasWord := ⟨tb 422 (by decide +kernel) rfl, tb 423 (by decide +kernel) rfl⟩
theorem NP_z_hasWord : NP M_z_hasWord 2 := by decide +kernel
theorem MF_q_add : MF M_q_add := ⟨tb 429 (by decide +kernel) rfl, tb 1 (by decide +kernel) rfl, by decide +kernel, by decide +kernel, by decide +kernel⟩
theorem MV_q_add : MV M_q_add := ⟨tb 427 (by decide +kernel) rfl, tb 428 (by decide +kernel) rfl⟩
theorem NP_q_add : NP M_q_add 5 := by decide +kernel
theorem MF_b_placeOf : MF M_b_placeOf := ⟨tb 433 (by decide +kernel) rfl, tb 6 (by decide +kernel) rfl, by decide +kernel, by decide +kernel, by decide +kernel⟩
theorem MV_b_placeOf : MV M_b_placeOf := ⟨tb 431 (by decide +kernel) rfl, tb 432 (by decide +kernel) rfl⟩
theorem NP_b_placeOf : NP M_b_placeOf 1 := by decide +kernel
theorem MF_q_putEntry : MF M_q_putEntry := ⟨tb 437 (by decide +kernel) rfl, tb 1 (by decide +kernel) rfl, by decide +kernel, by decide +kernel, by decide +kernel⟩
theorem MV_q_putEntry : MV M_q_putEntry := ⟨tb 436 (by decide +kernel) rfl, tbs (n := 7) 12 (by decide +kernel)⟩
theorem NP_q_putEntry : NP M_q_putEntry 5 := by decide +kernel
theorem MF_b_makeRoom : MF M_b_makeRoom := ⟨tb 441 (by decide +kernel) rfl, tb 6 (by decide +kernel) rfl, by decide +kernel, by decide +kernel, by decide +kernel⟩
theorem MV_b_makeRoom : MV M_b_makeRoom := ⟨tb 439 (by decide +kernel) rfl, tb 440 (by decide +kernel) rfl⟩
theorem NP_b_makeRoom : NP M_b_makeRoom 1 := by decide +kernel
theorem MF_z_encode : MF M_z_encode := ⟨tb 445 (by decide +kernel) rfl, tb 5 (by decide +kernel) rfl, by decide +kernel, by decide +kernel, by decide +kernel⟩
theorem MV_z_encode : MV M_z_encode := ⟨tb 443 (by decide +kernel) rfl, tb 444 (by decide +kernel) rfl⟩
theorem NP_z_encode : NP M_z_encode 1 := by decide +kernel
theorem MF_q_remove : MF M_q_remove := ⟨tb 452 (by decide +kernel) rfl, tb 1 (by decide +kernel) rfl, by decide +kernel, by decide +kernel, by decide +kernel⟩
theorem MV_q_remove : MV M_q_remove := ⟨tb 450 (by decide +kernel) rfl, tb 451 (by decide +kernel) rfl⟩
theorem NP_q_remove : NP M_q_remove 1 := by decide +kernel
theorem MF_b_drop : MF M_b_drop := ⟨tb 456 (by decide +kernel) rfl, tb 6 (by decide +kernel) rfl, by decide +kernel, by decide +kernel, by decide +kernel⟩
theorem MV_b_drop : MV M_b_drop := ⟨tb 454 (by decide +kernel) rfl, tb 455 (by decide +kernel) rfl⟩
theorem NP_b_drop : NP M_b_drop 1 := by decide +kernel
theorem MF_q_listOf : MF M_q_listOf := ⟨tb 460 (by decide +kernel) rfl, tb 1 (by decide +kernel) rfl, by decide +kernel, by decide +kernel, by decide +kernel⟩
theorem MV_q_listOf : MV M_q_listOf := ⟨tb 458 (by decide +kernel) rfl, tb 459 (by decide +kernel) rfl⟩
theorem NP_q_listOf : NP M_q_listOf 1 := by decide +kernel
theorem MF_q_codeOf : MF M_q_codeOf := ⟨tb 464 (by decide +kernel) rfl, tb 1 (by decide +kernel) rfl, by decide +kernel, by decide +kernel, by decide +kernel⟩
theorem MV_q_codeOf : MV M_q_codeOf := ⟨tb 462 (by decide +kernel) rfl, tb 463 (by decide +kernel) rfl⟩
theorem NP_q_codeOf : NP M_q_codeOf 1 := by decide +kernel
theorem MF_z_codeAsNumber : MF M_z_codeAsNumber := ⟨tb 468 (by decide +kernel) rfl, tb 5 (by decide +kernel) rfl, by decide +kernel, by decide +kernel, by decide +kernel⟩
theorem MV_z_codeAsNumber : MV M_z_codeAsNumber := ⟨tb 466 (by decide +kernel) rfl, tb 467 (by decide +kernel) rfl⟩
theorem NP_z_codeAsNumber : NP M_z_codeAsNumber 1 := by decide +kernel
theorem MF_q_entries : MF M_q_entries := ⟨tb 472 (by decide +kernel) rfl, tb 1 (by decide +kernel) rfl, by decide +kernel, by decide +kernel, by decide +kernel⟩
theorem MV_q_entries : MV M_q_entries := ⟨tb 470 (by decide +kernel) rfl, tb 471 (by decide +kernel) rfl⟩
theorem NP_q_entries : NP M_q_entries 1 := by decide +kernel
theorem MF_b_countInList : MF M_b_countInList := ⟨tb 476 (by decide +kernel) rfl, tb 6 (by decide +kernel) rfl, by decide +kernel, by decide +kernel, by decide +kernel⟩
theorem MV_b_countInList : MV M_b_countInList := ⟨tb 474 (by decide +kernel) rfl, tb 475 (by decide +kernel) rfl⟩
theorem NP_b_countInList : NP M_b_countInList 1 := by decide +kernel
theorem MF_q_effort : MF M_q_effort := ⟨tb 480 (by decide +kernel) rfl, tb 1 (by decide +kernel) rfl, by decide +kernel, by decide +kernel, by decide +kernel⟩
theorem MV_q_effort : MV M_q_effort := ⟨tb 478 (by decide +kernel) rfl, tb 479 (by decide +kernel) rfl⟩
theorem NP_q_effort : NP M_q_effort 2 := by decide +kernel
theorem MF_q_search : MF M_q_search := ⟨tb 484 (by decide +kernel) rfl, tb 1 (by decide +kernel) rfl, by decide +kernel, by decide +kernel, by decide +kernel⟩
theorem MV_q_search : MV M_q_search := ⟨tb 482 (by decide +kernel) rfl, tb 483 (by decide +kernel) rfl⟩
theorem NP_q_search : NP M_q_search 5 := by decide +kernel
theorem MF_f_find : MF M_f_find := ⟨tb 488 (by decide +kernel) rfl, tb 8 (by decide +kernel) rfl, by decide +kernel, by decide +kernel, by decide +kernel⟩
theorem MV_f_find : MV M_f_find := ⟨tb 486 (by decide +kernel) rfl, tb 487 (by decide +kernel) rfl⟩
theorem NP_f_find : NP M_f_find 3 := by decide +kernel
theorem MF_f_lookThrough : MF M_f_lookThrough := ⟨tb 492 (by decide +kernel) rfl, tb 8 (by decide +kernel) rfl, by decide +kernel, by decide +kernel, by decide +kernel⟩
theorem MV_f_lookThrough : MV M_f_lookThrough := ⟨tb 491 (by decide +kernel) rfl, tbs (n := 9) 13 (by decide +kernel)⟩
theorem NP_f_lookThrough : NP M_f_lookThrough 2 := by decide +kernel
theorem MF_z_listsBefore : MF M_z_listsBefore := ⟨tb 496 (by decide +kernel) rfl, tb 5 (by decide +kernel) rfl, by decide +kernel, by decide +kernel, by decide +kernel⟩
theorem MV_z_listsBefore : MV M_z_listsBefore := ⟨tb 494 (by decide +kernel) rfl, tb 495 (by decide +kernel) rfl⟩
theorem NP_z_listsBefore : NP M_z_listsBefore 2 := by decide +kernel
theorem MF_z_codeDistance : MF M_z_codeDistance := ⟨tb 500 (by decide +kernel) rfl, tb 5 (by decide +kernel) rfl, by decide +kernel, by decide +kernel, by decide +kernel⟩
theorem MV_z_codeDistance : MV M_z_codeDistance := ⟨tb 498 (by decide +kernel) rfl, tb 499 (by decide +kernel) rfl⟩
theorem NP_z_codeDistance : NP M_z_codeDistance 2 := by decide +kernel
theorem MF_f_sort : MF M_f_sort := ⟨tb 505 (by decide +kernel) rfl, tb 8 (by decide +kernel) rfl, by decide +kernel, by decide +kernel, by decide +kernel⟩
theorem MV_f_sort : MV M_f_sort := ⟨tb 504 (by decide +kernel) rfl, tbs (n := 9) 14 (by decide +kernel)⟩
theorem NP_f_sort : NP M_f_sort 1 := by decide +kernel
theorem MF_f_isBefore : MF M_f_isBefore := ⟨tb 509 (by decide +kernel) rfl, tb 8 (by decide +kernel) rfl, by decide +kernel, by decide +kernel, by decide +kernel⟩
theorem MV_f_isBefore : MV M_f_isBefore := ⟨tb 508 (by decide +kernel) rfl, tbs (n := 9) 15 (by decide +kernel)⟩
theorem NP_f_isBefore : NP M_f_isBefore 3 := by decide +kernel
theorem MF_f_measure : MF M_f_measure := ⟨tb 514 (by decide +kernel) rfl, tb 8 (by decide +kernel) rfl, by decide +kernel, by decide +kernel, by decide +kernel⟩
theorem MV_f_measure : MV M_f_measure := ⟨tb 513 (by decide +kernel) rfl, tbs (n := 9) 16 (by decide +kernel)⟩
end
section
theorem NP_f_measure : NP M_f_measure 2 := by decide +kernel
theorem MF_f_keepIds : MF M_f_keepIds := ⟨tb 519 (by decide +kernel) rfl, tb 8 (by decide +kernel) rfl, by decide +kernel, by decide +kernel, by decide +kernel⟩
theorem MV_f_keepIds : MV M_f_keepIds := ⟨tb 518 (by decide +kernel) rfl, tbs (n := 9) 17 (by decide +kernel)⟩
theorem NP_f_keepIds : NP M_f_keepIds 1 := by decide +kernel
theorem MF_q_hit : MF M_q_hit := ⟨tb 523 (by decide +kernel) rfl, tb 1 (by decide +kernel) rfl, by decide +kernel, by decide +kernel, by decide +kernel⟩
theorem MV_q_hit : MV M_q_hit := ⟨tb 521 (by decide +kernel) rfl, tb 522 (by decide +kernel) rfl⟩
theorem NP_q_hit : NP M_q_hit 1 := by decide +kernel
theorem MF_f_hasResult : MF M_f_hasResult := ⟨tb 527 (by decide +kernel) rfl, tb 8 (by decide +kernel) rfl, by decide +kernel, by decide +kernel, by decide +kernel⟩
theorem MV_f_hasResult : MV M_f_hasResult := ⟨tb 525 (by decide +kernel) rfl, tb 526 (by decide +kernel) rfl⟩
theorem NP_f_hasResult : NP M_f_hasResult 1 := by decide +kernel
theorem MF_q_far : MF M_q_far := ⟨tb 532 (by decide +kernel) rfl, tb 1 (by decide +kernel) rfl, by decide +kernel, by decide +kernel, by decide +kernel⟩
theorem MV_q_far : MV M_q_far := ⟨tb 530 (by decide +kernel) rfl, tb 531 (by decide +kernel) rfl⟩
theorem NP_q_far : NP M_q_far 1 := by decide +kernel
theorem MF_q_scanned : MF M_q_scanned := ⟨tb 536 (by decide +kernel) rfl, tb 1 (by decide +kernel) rfl, by decide +kernel, by decide +kernel, by decide +kernel⟩
theorem MV_q_scanned : MV M_q_scanned := ⟨tb 534 (by decide +kernel) rfl, tb 535 (by decide +kernel) rfl⟩
theorem NP_q_scanned : NP M_q_scanned 0 := by decide +kernel
theorem MF_q_save : MF M_q_save := ⟨tb 540 (by decide +kernel) rfl, tb 1 (by decide +kernel) rfl, by decide +kernel, by decide +kernel, by decide +kernel⟩
theorem MV_q_save : MV M_q_save := ⟨tb 538 (by decide +kernel) rfl, tb 539 (by decide +kernel) rfl⟩
theorem NP_q_save : NP M_q_save 0 := by decide +kernel
theorem MF_q_writeHead : MF M_q_writeHead := ⟨tb 544 (by decide +kernel) rfl, tb 1 (by decide +kernel) rfl, by decide +kernel, by decide +kernel, by decide +kernel⟩
theorem MV_q_writeHead : MV M_q_writeHead := ⟨tb 543 (by decide +kernel) rfl, tbs (n := 7) 18 (by decide +kernel)⟩
theorem NP_q_writeHead : NP M_q_writeHead 0 := by decide +kernel
theorem MF_y_put : MF M_y_put := ⟨tb 548 (by decide +kernel) rfl, tb 9 (by decide +kernel) rfl, by decide +kernel, by decide +kernel, by decide +kernel⟩
theorem MV_y_put : MV M_y_put := ⟨tb 546 (by decide +kernel) rfl, tb 547 (by decide +kernel) rfl⟩
theorem NP_y_put : NP M_y_put 1 := by decide +kernel
theorem MF_q_writeCentres : MF M_q_writeCentres := ⟨tb 552 (by decide +kernel) rfl, tb 1 (by decide +kernel) rfl, by decide +kernel, by decide +kernel, by decide +kernel⟩
theorem MV_q_writeCentres : MV M_q_writeCentres := ⟨tb 551 (by decide +kernel) rfl, tbs (n := 7) 19 (by decide +kernel)⟩
theorem NP_q_writeCentres : NP M_q_writeCentres 0 := by decide +kernel
theorem MF_y_putPair : MF M_y_putPair := ⟨tb 556 (by decide +kernel) rfl, tb 9 (by decide +kernel) rfl, by decide +kernel, by decide +kernel, by decide +kernel⟩
theorem MV_y_putPair : MV M_y_putPair := ⟨tb 554 (by decide +kernel) rfl, tb 555 (by decide +kernel) rfl⟩
theorem NP_y_putPair : NP M_y_putPair 1 := by decide +kernel
theorem MF_q_writeWords : MF M_q_writeWords := ⟨tb 561 (by decide +kernel) rfl, tb 1 (by decide +kernel) rfl, by decide +kernel, by decide +kernel, by decide +kernel⟩
theorem MV_q_writeWords : MV M_q_writeWords := ⟨tb 560 (by decide +kernel) rfl, tbs (n := 7) 20 (by decide +kernel)⟩
theorem NP_q_writeWords : NP M_q_writeWords 0 := by decide +kernel
theorem MF_q_writeEntries : MF M_q_writeEntries := ⟨tb 565 (by decide +kernel) rfl, tb 1 (by decide +kernel) rfl, by decide +kernel, by decide +kernel, by decide +kernel⟩
theorem MV_q_writeEntries : MV M_q_writeEntries := ⟨tb 564 (by decide +kernel) rfl, tbs (n := 7) 21 (by decide +kernel)⟩
theorem NP_q_writeEntries : NP M_q_writeEntries 0 := by decide +kernel
theorem MF_y_checkOf : MF M_y_checkOf := ⟨tb 569 (by decide +kernel) rfl, tb 9 (by decide +kernel) rfl, by decide +kernel, by decide +kernel, by decide +kernel⟩
theorem MV_y_checkOf : MV M_y_checkOf := ⟨tb 567 (by decide +kernel) rfl, tb 568 (by decide +kernel) rfl⟩
theorem NP_y_checkOf : NP M_y_checkOf 1 := by decide +kernel
theorem MF_q_alter : MF M_q_alter := ⟨tb 573 (by decide +kernel) rfl, tb 1 (by decide +kernel) rfl, by decide +kernel, by decide +kernel, by decide +kernel⟩
theorem MV_q_alter : MV M_q_alter := ⟨tb 571 (by decide +kernel) rfl, tb 572 (by decide +kernel) rfl⟩
theorem NP_q_alter : NP M_q_alter 2 := by decide +kernel
theorem MF_q_cut : MF M_q_cut := ⟨tb 577 (by decide +kernel) rfl, tb 1 (by decide +kernel) rfl, by decide +kernel, by decide +kernel, by decide +kernel⟩
theorem MV_q_cut : MV M_q_cut := ⟨tb 575 (by decide +kernel) rfl, tb 576 (by decide +kernel) rfl⟩
theorem NP_q_cut : NP M_q_cut 1 := by decide +kernel
theorem MF_q_byteAt : MF M_q_byteAt := ⟨tb 581 (by decide +kernel) rfl, tb 1 (by decide +kernel) rfl, by decide +kernel, by decide +kernel, by decide +kernel⟩
theorem MV_q_byteAt : MV M_q_byteAt := ⟨tb 579 (by decide +kernel) rfl, tb 580 (by decide +kernel) rfl⟩
theorem NP_q_byteAt : NP M_q_byteAt 1 := by decide +kernel
theorem MF_q_load : MF M_q_load := ⟨tb 585 (by decide +kernel) rfl, tb 1 (by decide +kernel) rfl, by decide +kernel, by decide +kernel, by decide +kernel⟩
theorem MV_q_load : MV M_q_load := ⟨tb 583 (by decide +kernel) rfl, tb 584 (by decide +kernel) rfl⟩
theorem NP_q_load : NP M_q_load 0 := by decide +kernel
theorem MF_y_fault : MF M_y_fault := ⟨tb 589 (by decide +kernel) rfl, tb 9 (by decide +kernel) rfl, by decide +kernel, by decide +kernel, by decide +kernel⟩
theorem MV_y_fault : MV M_y_fault := ⟨tb 587 (by decide +kernel) rfl, tb 588 (by decide +kernel) rfl⟩
theorem NP_y_fault : NP M_y_fault 0 := by decide +kernel
theorem MF_y_hasSizes : MF M_y_hasSizes := ⟨tb 593 (by decide +kernel) rfl, tb 9 (by decide +kernel) rfl, by decide +kernel, by decide +kernel, by decide +kernel⟩
theorem MV_y_hasSizes : MV M_y_hasSizes := ⟨tb 592 (by decide +kernel) rfl, tbs (n := 2) 22 (by decide +kernel)⟩
theorem NP_y_hasSizes : NP M_y_hasSizes 0 := by decide +kernel
theorem MF_y_step : MF M_y_step := ⟨tb 598 (by decide +kernel) rfl, tb 9 (by decide +kernel) rfl, by decide +kernel, by decide +kernel, by decide +kernel⟩
theorem MV_y_step : MV M_y_step := ⟨tb 596 (by decide +kernel) rfl, tb 597 (by decide +kernel) rfl⟩
theorem NP_y_step : NP M_y_step 1 := by decide +kernel
theorem MF_y_entryStart : MF M_y_entryStart := ⟨tb 603 (by decide +kernel) rfl, tb 9 (by decide +kernel) rfl, by decide +kernel, by decide +kernel, by decide +kernel⟩
theorem MV_y_entryStart : MV M_y_entryStart := ⟨tb 602 (by decide +kernel) rfl, tbs (n := 2) 23 (by decide +kernel)⟩
theorem NP_y_entryStart : NP M_y_entryStart 1 := by decide +kernel
theorem MF_y_wideCount : MF M_y_wideCount := ⟨tb 607 (by decide +kernel) rfl, tb 9 (by decide +kernel) rfl, by decide +kernel, by decide +kernel, by decide +kernel⟩
theorem MV_y_wideCount : MV M_y_wideCount := ⟨tb 606 (by decide +kernel) rfl, tbs (n := 2) 24 (by decide +kernel)⟩
theorem NP_y_wideCount : NP M_y_wideCount 0 := by decide +kernel
theorem MF_y_hasWides : MF M_y_hasWides := ⟨tb 612 (by decide +kernel) rfl, tb 9 (by decide +kernel) rfl, by decide +kernel, by decide +kernel, by decide +kernel⟩
theorem MV_y_hasWides : MV M_y_hasWides := ⟨tb 611 (by decide +kernel) rfl, tbs (n := 2) 25 (by decide +kernel)⟩
theorem NP_y_hasWides : NP M_y_hasWides 0 := by decide +kernel
theorem MF_y_wide : MF M_y_wide := ⟨tb 616 (by decide +kernel) rfl, tb 9 (by decide +kernel) rfl, by decide +kernel, by decide +kernel, by decide +kernel⟩
theorem MV_y_wide : MV M_y_wide := ⟨tb 614 (by decide +kernel) rfl, tb 615 (by decide +kernel) rfl⟩
theorem NP_y_wide : NP M_y_wide 1 := by decide +kernel
theorem MF_y_pairAt : MF M_y_pairAt := ⟨tb 620 (by decide +kernel) rfl, tb 9 (by decide +kernel) rfl, by decide +kernel, by decide +kernel, by decide +kernel⟩
theorem MV_y_pairAt : MV M_y_pairAt := ⟨tb 619 (by decide +kernel) rfl, tbs (n := 2) 26 (by decide +kernel)⟩
theorem NP_y_pairAt : NP M_y_pairAt 1 := by decide +kernel
theorem MF_y_hasEntries : MF M_y_hasEntries := ⟨tb 624 (by decide +kernel) rfl, tb 9 (by decide +kernel) rfl, by decide +kernel, by decide +kernel, by decide +kernel⟩
theorem MV_y_hasEntries : MV M_y_hasEntries := ⟨tb 623 (by decide +kernel) rfl, tbs (n := 2) 27 (by decide +kernel)⟩
theorem NP_y_hasEntries : NP M_y_hasEntries 0 := by decide +kernel
theorem MF_y_entryId : MF M_y_entryId := ⟨tb 628 (by decide +kernel) rfl, tb 9 (by decide +kernel) rfl, by decide +kernel, by decide +kernel, by decide +kernel⟩
theorem MV_y_entryId : MV M_y_entryId := ⟨tb 626 (by decide +kernel) rfl, tb 627 (by decide +kernel) rfl⟩
theorem NP_y_entryId : NP M_y_entryId 1 := by decide +kernel
theorem MF_y_hasPoint : MF M_y_hasPoint := ⟨tb 632 (by decide +kernel) rfl, tb 9 (by decide +kernel) rfl, by decide +kernel, by decide +kernel, by decide +kernel⟩
theorem MV_y_hasPoint : MV M_y_hasPoint := ⟨tb 631 (by decide +kernel) rfl, tbs (n := 2) 28 (by decide +kernel)⟩
theorem NP_y_hasPoint : NP M_y_hasPoint 1 := by decide +kernel
theorem MF_y_entryCoordinate : MF M_y_entryCoordinate := ⟨tb 636 (by decide +kernel) rfl, tb 9 (by decide +kernel) rfl, by decide +kernel, by decide +kernel, by decide +kernel⟩
theorem MV_y_entryCoordinate : MV M_y_entryCoordinate := ⟨tb 634 (by decide +kernel) rfl, tb 635 (by decide +kernel) rfl⟩
theorem NP_y_entryCoordinate : NP M_y_entryCoordinate 2 := by decide +kernel
theorem MF_q_readHead : MF M_q_readHead := ⟨tb 640 (by decide +kernel) rfl, tb 1 (by decide +kernel) rfl, by decide +kernel, by decide +kernel, by decide +kernel⟩
theorem MV_q_readHead : MV M_q_readHead := ⟨tb 639 (by decide +kernel) rfl, tbs (n := 7) 29 (by decide +kernel)⟩
theorem NP_q_readHead : NP M_q_readHead 0 := by decide +kernel
theorem MF_q_readCentres : MF M_q_readCentres := ⟨tb 645 (by decide +kernel) rfl, tb 1 (by decide +kernel) rfl, by decide +kernel, by decide +kernel, by decide +kernel⟩
theorem MV_q_readCentres : MV M_q_readCentres := ⟨tb 644 (by decide +kernel) rfl, tbs (n := 7) 30 (by decide +kernel)⟩
theorem NP_q_readCentres : NP M_q_readCentres 0 := by decide +kernel
theorem MF_q_readWords : MF M_q_readWords := ⟨tb 650 (by decide +kernel) rfl, tb 1 (by decide +kernel) rfl, by decide +kernel, by decide +kernel, by decide +kernel⟩
theorem MV_q_readWords : MV M_q_readWords := ⟨tb 649 (by decide +kernel) rfl, tbs (n := 7) 31 (by decide +kernel)⟩
theorem NP_q_readWords : NP M_q_readWords 0 := by decide +kernel
theorem MF_q_readEntries : MF M_q_readEntries := ⟨tb 654 (by decide +kernel) rfl, tb 1 (by decide +kernel) rfl, by decide +kernel, by decide +kernel, by decide +kernel⟩
theorem MV_q_readEntries : MV M_q_readEntries := ⟨tb 653 (by decide +kernel) rfl, tbs (n := 7) 32 (by decide +kernel)⟩
theorem NP_q_readEntries : NP M_q_readEntries 0 := by decide +kernel
theorem MF_m_turn : MF M_m_turn := ⟨tb 767 (by decide +kernel) rfl, tb 10 (by decide +kernel) rfl, by decide +kernel, by decide +kernel, by decide +kernel⟩
theorem MV_m_turn : MV M_m_turn := ⟨tb 765 (by decide +kernel) rfl, tb 766 (by decide +kernel) rfl⟩
theorem NP_m_turn : NP M_m_turn 4 := by decide +kernel
theorem MF_m_isTurn : MF M_m_isTurn := ⟨tb 770 (by decide +kernel) rfl, tb 10 (by decide +kernel) rfl, by decide +kernel, by decide +kernel, by decide +kernel⟩
theorem MS_m_isTurn : MS M_m_isTurn := tb 769 (by decide +kernel) rfl
theorem NP_m_isTurn : NP M_m_isTurn 4 := by decide +kernel
theorem MF_m_bit : MF M_m_bit := ⟨tb 773 (by decide +kernel) rfl, tb 10 (by decide +kernel) rfl, by decide +kernel, by decide +kernel, by decide +kernel⟩
theorem MS_m_bit : MS M_m_bit := tb 772 (by decide +kernel) rfl
theorem NP_m_bit : NP M_m_bit 1 := by decide +kernel
theorem MF_m_sample : MF M_m_sample := ⟨tb 777 (by decide +kernel) rfl, tb 10 (by decide +kernel) rfl, by decide +kernel, by decide +kernel, by decide +kernel⟩
theorem MV_m_sample : MV M_m_sample := ⟨tb 775 (by decide +kernel) rfl, tb 776 (by decide +kernel) rfl⟩
theorem NP_m_sample : NP M_m_sample 4 := by decide +kernel
theorem MF_m_give : MF M_m_give := ⟨tb 781 (by decide +kernel) rfl, tb 10 (by decide +kernel) rfl, by decide +kernel, by decide +kernel, by decide +kernel⟩
theorem MV_m_give : MV M_m_give := ⟨tb 780 (by decide +kernel) rfl, tbs (n := 33) 33 (by decide +kernel)⟩
theorem NP_m_give : NP M_m_give 4 := by decide +kernel
theorem MF_m_within : MF M_m_within := ⟨tb 784 (by decide +kernel) rfl, tb 10 (by decide +kernel) rfl, by decide +kernel, by decide +kernel, by decide +kernel⟩
theorem MS_m_within : MS M_m_within := tb 783 (by decide +kernel) rfl
theorem NP_m_within : NP M_m_within 3 := by decide +kernel
theorem MF_m_train : MF M_m_train := ⟨tb 788 (by decide +kernel) rfl, tb 10 (by decide +kernel) rfl, by decide +kernel, by decide +kernel, by decide +kernel⟩
theorem MV_m_train : MV M_m_train := ⟨tb 786 (by decide +kernel) rfl, tb 787 (by decide +kernel) rfl⟩
theorem NP_m_train : NP M_m_train 4 := by decide +kernel
theorem MF_m_turnIt : MF M_m_turnIt := ⟨tb 792 (by decide +kernel) rfl, tb 10 (by decide +kernel) rfl, by decide +kernel, by decide +kernel, by decide +kernel⟩
theorem MV_m_turnIt : MV M_m_turnIt := ⟨tb 791 (by decide +kernel) rfl, tbs (n := 33) 34 (by decide +kernel)⟩
theorem NP_m_turnIt : NP M_m_turnIt 0 := by decide +kernel
theorem MF_m_cluster : MF M_m_cluster := ⟨tb 796 (by decide +kernel) rfl, tb 10 (by decide +kernel) rfl, by decide +kernel, by decide +kernel, by decide +kernel⟩
theorem MV_m_cluster : MV M_m_cluster := ⟨tb 795 (by decide +kernel) rfl, tbs (n := 33) 35 (by decide +kernel)⟩
theorem NP_m_cluster : NP M_m_cluster 3 := by decide +kernel
theorem MF_m_nearest : MF M_m_nearest := ⟨tb 800 (by decide +kernel) rfl, tb 10 (by decide +kernel) rfl, by decide +kernel, by decide +kernel, by decide +kernel⟩
theorem MV_m_nearest : MV M_m_nearest := ⟨tb 799 (by decide +kernel) rfl, tbs (n := 33) 36 (by decide +kernel)⟩
theorem NP_m_nearest : NP M_m_nearest 3 := by decide +kernel
theorem MF_m_gap : MF M_m_gap := ⟨tb 804 (by decide +kernel) rfl, tb 10 (by decide +kernel) rfl, by decide +kernel, by decide +kernel, by decide +kernel⟩
theorem MV_m_gap : MV M_m_gap := ⟨tb 803 (by decide +kernel) rfl, tbs (n := 33) 37 (by decide +kernel)⟩
theorem NP_m_gap : NP M_m_gap 3 := by decide +kernel
theorem MF_m_mean : MF M_m_mean := ⟨tb 808 (by decide +kernel) rfl, tb 10 (by decide +kernel) rfl, by decide +kernel, by decide +kernel, by decide +kernel⟩
theorem MV_m_mean : MV M_m_mean := ⟨tb 807 (by decide +kernel) rfl, tbs (n := 33) 38 (by decide +kernel)⟩
theorem NP_m_mean : NP M_m_mean 2 := by decide +kernel
theorem MF_m_floor : MF M_m_floor := ⟨tb 811 (by decide +kernel) rfl, tb 10 (by decide +kernel) rfl, by decide +kernel, by decide +kernel, by decide +kernel⟩
theorem MS_m_floor : MS M_m_floor := tb 810 (by decide +kernel) rfl
theorem NP_m_floor : NP M_m_floor 2 := by decide +kernel
theorem MF_m_fill : MF M_m_fill := ⟨tb 815 (by decide +kernel) rfl, tb 10 (by decide +kernel) rfl, by decide +kernel, by decide +kernel, by decide +kernel⟩
theorem MV_m_fill : MV M_m_fill := ⟨tb 814 (by decide +kernel) rfl, tbs (n := 33) 39 (by decide +kernel)⟩
theorem NP_m_fill : NP M_m_fill 2 := by decide +kernel
theorem MF_m_hasMember : MF M_m_hasMember := ⟨tb 819 (by decide +kernel) rfl, tb 10 (by decide +kernel) rfl, by decide +kernel, by decide +kernel, by decide +kernel⟩
theorem MV_m_hasMember : MV M_m_hasMember := ⟨tb 818 (by decide +kernel) rfl, tbs (n := 33) 40 (by decide +kernel)⟩
theorem NP_m_hasMember : NP M_m_hasMember 1 := by decide +kernel
theorem MF_m_parts : MF M_m_parts := ⟨tb 823 (by decide +kernel) rfl, tb 10 (by decide +kernel) rfl, by decide +kernel, by decide +kernel, by decide +kernel⟩
theorem MV_m_parts : MV M_m_parts := ⟨tb 822 (by decide +kernel) rfl, tbs (n := 33) 41 (by decide +kernel)⟩
theorem NP_m_parts : NP M_m_parts 0 := by decide +kernel
theorem MF_m_learn : MF M_m_learn := ⟨tb 827 (by decide +kernel) rfl, tb 10 (by decide +kernel) rfl, by decide +kernel, by decide +kernel, by decide +kernel⟩
theorem MV_m_learn : MV M_m_learn := ⟨tb 826 (by decide +kernel) rfl, tbs (n := 33) 42 (by decide +kernel)⟩
theorem NP_m_learn : NP M_m_learn 2 := by decide +kernel
theorem MF_m_spread : MF M_m_spread := ⟨tb 831 (by decide +kernel) rfl, tb 10 (by decide +kernel) rfl, by decide +kernel, by decide +kernel, by decide +kernel⟩
theorem MV_m_spread : MV M_m_spread := ⟨tb 830 (by decide +kernel) rfl, tbs (n := 33) 43 (by decide +kernel)⟩
theorem NP_m_spread : NP M_m_spread 1 := by decide +kernel
theorem MF_m_loss : MF M_m_loss := ⟨tb 835 (by decide +kernel) rfl, tb 10 (by decide +kernel) rfl, by decide +kernel, by decide +kernel, by decide +kernel⟩
theorem MV_m_loss : MV M_m_loss := ⟨tb 834 (by decide +kernel) rfl, tbs (n := 33) 44 (by decide +kernel)⟩
theorem NP_m_loss : NP M_m_loss 0 := by decide +kernel
theorem MF_m_nearestWord : MF M_m_nearestWord := ⟨tb 839 (by decide +kernel) rfl, tb 10 (by decide +kernel) rfl, by decide +kernel, by decide +kernel, by decide +kernel⟩
theorem MV_m_nearestWord : MV M_m_nearestWord := ⟨tb 838 (by decide +kernel) rfl, tbs (n := 33) 45 (by decide +kernel)⟩
theorem NP_m_nearestWord : NP M_m_nearestWord 1 := by decide +kernel
theorem MF_m_wordGap : MF M_m_wordGap := ⟨tb 843 (by decide +kernel) rfl, tb 10 (by decide +kernel) rfl, by decide +kernel, by decide +kernel, by decide +kernel⟩
theorem MV_m_wordGap : MV M_m_wordGap := ⟨tb 842 (by decide +kernel) rfl, tbs (n := 33) 46 (by decide +kernel)⟩
theorem NP_m_wordGap : NP M_m_wordGap 2 := by decide +kernel
theorem MF_m_size : MF M_m_size := ⟨tb 847 (by decide +kernel) rfl, tb 10 (by decide +kernel) rfl, by decide +kernel, by decide +kernel, by decide +kernel⟩
theorem MV_m_size : MV M_m_size := ⟨tb 846 (by decide +kernel) rfl, tbs (n := 33) 47 (by decide +kernel)⟩
theorem NP_m_size : NP M_m_size 0 := by decide +kernel
theorem MF_m_centre : MF M_m_centre := ⟨tb 851 (by decide +kernel) rfl, tb 10 (by decide +kernel) rfl, by decide +kernel, by decide +kernel, by decide +kernel⟩
theorem MV_m_centre : MV M_m_centre := ⟨tb 849 (by decide +kernel) rfl, tb 850 (by decide +kernel) rfl⟩
theorem NP_m_centre : NP M_m_centre 2 := by decide +kernel
theorem MF_m_word : MF M_m_word := ⟨tb 855 (by decide +kernel) rfl, tb 10 (by decide +kernel) rfl, by decide +kernel, by decide +kernel, by decide +kernel⟩
theorem MV_m_word : MV M_m_word := ⟨tb 853 (by decide +kernel) rfl, tb 854 (by decide +kernel) rfl⟩
theorem NP_m_word : NP M_m_word 3 := by decide +kernel
theorem MF_m_add : MF M_m_add := ⟨tb 859 (by decide +kernel) rfl, tb 10 (by decide +kernel) rfl, by decide +kernel, by decide +kernel, by decide +kernel⟩
theorem MV_m_add : MV M_m_add := ⟨tb 857 (by decide +kernel) rfl, tb 858 (by decide +kernel) rfl⟩
theorem NP_m_add : NP M_m_add 5 := by decide +kernel
theorem MF_m_listNow : MF M_m_listNow := ⟨tb 863 (by decide +kernel) rfl, tb 10 (by decide +kernel) rfl, by decide +kernel, by decide +kernel, by decide +kernel⟩
theorem MV_m_listNow : MV M_m_listNow := ⟨tb 862 (by decide +kernel) rfl, tbs (n := 33) 48 (by decide +kernel)⟩
theorem NP_m_listNow : NP M_m_listNow 0 := by decide +kernel
theorem MF_m_away : MF M_m_away := ⟨tb 867 (by decide +kernel) rfl, tb 10 (by decide +kernel) rfl, by decide +kernel, by decide +kernel, by decide +kernel⟩
theorem MV_m_away : MV M_m_away := ⟨tb 866 (by decide +kernel) rfl, tbs (n := 33) 49 (by decide +kernel)⟩
theorem NP_m_away : NP M_m_away 1 := by decide +kernel
theorem MF_m_remove : MF M_m_remove := ⟨tb 871 (by decide +kernel) rfl, tb 10 (by decide +kernel) rfl, by decide +kernel, by decide +kernel, by decide +kernel⟩
theorem MV_m_remove : MV M_m_remove := ⟨tb 869 (by decide +kernel) rfl, tb 870 (by decide +kernel) rfl⟩
theorem NP_m_remove : NP M_m_remove 1 := by decide +kernel
theorem MF_m_there : MF M_m_there := ⟨tb 875 (by decide +kernel) rfl, tb 10 (by decide +kernel) rfl, by decide +kernel, by decide +kernel, by decide +kernel⟩
theorem MV_m_there : MV M_m_there := ⟨tb 874 (by decide +kernel) rfl, tbs (n := 33) 50 (by decide +kernel)⟩
theorem NP_m_there : NP M_m_there 1 := by decide +kernel
theorem MF_m_listOf : MF M_m_listOf := ⟨tb 879 (by decide +kernel) rfl, tb 10 (by decide +kernel) rfl, by decide +kernel, by decide +kernel, by decide +kernel⟩
theorem MV_m_listOf : MV M_m_listOf := ⟨tb 877 (by decide +kernel) rfl, tb 878 (by decide +kernel) rfl⟩
theorem NP_m_listOf : NP M_m_listOf 1 := by decide +kernel
theorem MF_m_turnEntry : MF M_m_turnEntry := ⟨tb 883 (by decide +kernel) rfl, tb 10 (by decide +kernel) rfl, by decide +kernel, by decide +kernel, by decide +kernel⟩
theorem MV_m_turnEntry : MV M_m_turnEntry := ⟨tb 882 (by decide +kernel) rfl, tbs (n := 33) 51 (by decide +kernel)⟩
theorem NP_m_turnEntry : NP M_m_turnEntry 1 := by decide +kernel
theorem MF_m_codeOf : MF M_m_codeOf := ⟨tb 887 (by decide +kernel) rfl, tb 10 (by decide +kernel) rfl, by decide +kernel, by decide +kernel, by decide +kernel⟩
theorem MV_m_codeOf : MV M_m_codeOf := ⟨tb 885 (by decide +kernel) rfl, tb 886 (by decide +kernel) rfl⟩
theorem NP_m_codeOf : NP M_m_codeOf 1 := by decide +kernel
theorem MF_m_leave : MF M_m_leave := ⟨tb 891 (by decide +kernel) rfl, tb 10 (by decide +kernel) rfl, by decide +kernel, by decide +kernel, by decide +kernel⟩
theorem MV_m_leave : MV M_m_leave := ⟨tb 890 (by decide +kernel) rfl, tbs (n := 33) 52 (by decide +kernel)⟩
theorem NP_m_leave : NP M_m_leave 1 := by decide +kernel
theorem MF_m_entries : MF M_m_entries := ⟨tb 895 (by decide +kernel) rfl, tb 10 (by decide +kernel) rfl, by decide +kernel, by decide +kernel, by decide +kernel⟩
end
section
theorem MV_m_entries : MV M_m_entries := ⟨tb 893 (by decide +kernel) rfl, tb 894 (by decide +kernel) rfl⟩
theorem NP_m_entries : NP M_m_entries 1 := by decide +kernel
theorem MF_m_effort : MF M_m_effort := ⟨tb 899 (by decide +kernel) rfl, tb 10 (by decide +kernel) rfl, by decide +kernel, by decide +kernel, by decide +kernel⟩
theorem MV_m_effort : MV M_m_effort := ⟨tb 897 (by decide +kernel) rfl, tb 898 (by decide +kernel) rfl⟩
theorem NP_m_effort : NP M_m_effort 2 := by decide +kernel
theorem MF_m_search : MF M_m_search := ⟨tb 903 (by decide +kernel) rfl, tb 10 (by decide +kernel) rfl, by decide +kernel, by decide +kernel, by decide +kernel⟩
theorem MV_m_search : MV M_m_search := ⟨tb 901 (by decide +kernel) rfl, tb 902 (by decide +kernel) rfl⟩
theorem NP_m_search : NP M_m_search 5 := by decide +kernel
theorem MF_m_measure : MF M_m_measure := ⟨tb 907 (by decide +kernel) rfl, tb 10 (by decide +kernel) rfl, by decide +kernel, by decide +kernel, by decide +kernel⟩
theorem MV_m_measure : MV M_m_measure := ⟨tb 906 (by decide +kernel) rfl, tbs (n := 33) 53 (by decide +kernel)⟩
theorem NP_m_measure : NP M_m_measure 1 := by decide +kernel
theorem MF_m_probed : MF M_m_probed := ⟨tb 911 (by decide +kernel) rfl, tb 10 (by decide +kernel) rfl, by decide +kernel, by decide +kernel, by decide +kernel⟩
theorem MV_m_probed : MV M_m_probed := ⟨tb 910 (by decide +kernel) rfl, tbs (n := 33) 54 (by decide +kernel)⟩
theorem NP_m_probed : NP M_m_probed 1 := by decide +kernel
theorem MF_m_rank : MF M_m_rank := ⟨tb 915 (by decide +kernel) rfl, tb 10 (by decide +kernel) rfl, by decide +kernel, by decide +kernel, by decide +kernel⟩
theorem MV_m_rank : MV M_m_rank := ⟨tb 914 (by decide +kernel) rfl, tbs (n := 33) 55 (by decide +kernel)⟩
theorem NP_m_rank : NP M_m_rank 1 := by decide +kernel
theorem MF_m_exactRank : MF M_m_exactRank := ⟨tb 919 (by decide +kernel) rfl, tb 10 (by decide +kernel) rfl, by decide +kernel, by decide +kernel, by decide +kernel⟩
theorem MV_m_exactRank : MV M_m_exactRank := ⟨tb 918 (by decide +kernel) rfl, tbs (n := 33) 56 (by decide +kernel)⟩
theorem NP_m_exactRank : NP M_m_exactRank 1 := by decide +kernel
theorem MF_m_hit : MF M_m_hit := ⟨tb 923 (by decide +kernel) rfl, tb 10 (by decide +kernel) rfl, by decide +kernel, by decide +kernel, by decide +kernel⟩
theorem MV_m_hit : MV M_m_hit := ⟨tb 921 (by decide +kernel) rfl, tb 922 (by decide +kernel) rfl⟩
theorem NP_m_hit : NP M_m_hit 1 := by decide +kernel
theorem MF_m_far : MF M_m_far := ⟨tb 927 (by decide +kernel) rfl, tb 10 (by decide +kernel) rfl, by decide +kernel, by decide +kernel, by decide +kernel⟩
theorem MV_m_far : MV M_m_far := ⟨tb 925 (by decide +kernel) rfl, tb 926 (by decide +kernel) rfl⟩
theorem NP_m_far : NP M_m_far 1 := by decide +kernel
theorem MF_m_scanned : MF M_m_scanned := ⟨tb 931 (by decide +kernel) rfl, tb 10 (by decide +kernel) rfl, by decide +kernel, by decide +kernel, by decide +kernel⟩
theorem MV_m_scanned : MV M_m_scanned := ⟨tb 929 (by decide +kernel) rfl, tb 930 (by decide +kernel) rfl⟩
theorem NP_m_scanned : NP M_m_scanned 0 := by decide +kernel
theorem MF_m_save : MF M_m_save := ⟨tb 935 (by decide +kernel) rfl, tb 10 (by decide +kernel) rfl, by decide +kernel, by decide +kernel, by decide +kernel⟩
theorem MV_m_save : MV M_m_save := ⟨tb 933 (by decide +kernel) rfl, tb 934 (by decide +kernel) rfl⟩
theorem NP_m_save : NP M_m_save 0 := by decide +kernel
theorem MF_m_put : MF M_m_put := ⟨tb 939 (by decide +kernel) rfl, tb 10 (by decide +kernel) rfl, by decide +kernel, by decide +kernel, by decide +kernel⟩
theorem MV_m_put : MV M_m_put := ⟨tb 938 (by decide +kernel) rfl, tbs (n := 33) 57 (by decide +kernel)⟩
theorem NP_m_put : NP M_m_put 1 := by decide +kernel
theorem MF_m_putTwo : MF M_m_putTwo := ⟨tb 943 (by decide +kernel) rfl, tb 10 (by decide +kernel) rfl, by decide +kernel, by decide +kernel, by decide +kernel⟩
theorem MV_m_putTwo : MV M_m_putTwo := ⟨tb 942 (by decide +kernel) rfl, tbs (n := 33) 58 (by decide +kernel)⟩
theorem NP_m_putTwo : NP M_m_putTwo 1 := by decide +kernel
theorem MF_m_sum : MF M_m_sum := ⟨tb 947 (by decide +kernel) rfl, tb 10 (by decide +kernel) rfl, by decide +kernel, by decide +kernel, by decide +kernel⟩
theorem MV_m_sum : MV M_m_sum := ⟨tb 946 (by decide +kernel) rfl, tbs (n := 33) 59 (by decide +kernel)⟩
theorem NP_m_sum : NP M_m_sum 1 := by decide +kernel
theorem MF_m_alter : MF M_m_alter := ⟨tb 951 (by decide +kernel) rfl, tb 10 (by decide +kernel) rfl, by decide +kernel, by decide +kernel, by decide +kernel⟩
theorem MV_m_alter : MV M_m_alter := ⟨tb 949 (by decide +kernel) rfl, tb 950 (by decide +kernel) rfl⟩
theorem NP_m_alter : NP M_m_alter 2 := by decide +kernel
theorem MF_m_cut : MF M_m_cut := ⟨tb 955 (by decide +kernel) rfl, tb 10 (by decide +kernel) rfl, by decide +kernel, by decide +kernel, by decide +kernel⟩
theorem MV_m_cut : MV M_m_cut := ⟨tb 953 (by decide +kernel) rfl, tb 954 (by decide +kernel) rfl⟩
theorem NP_m_cut : NP M_m_cut 1 := by decide +kernel
theorem MF_m_byteAt : MF M_m_byteAt := ⟨tb 959 (by decide +kernel) rfl, tb 10 (by decide +kernel) rfl, by decide +kernel, by decide +kernel, by decide +kernel⟩
theorem MV_m_byteAt : MV M_m_byteAt := ⟨tb 957 (by decide +kernel) rfl, tb 958 (by decide +kernel) rfl⟩
theorem NP_m_byteAt : NP M_m_byteAt 1 := by decide +kernel
theorem MF_m_load : MF M_m_load := ⟨tb 963 (by decide +kernel) rfl, tb 10 (by decide +kernel) rfl, by decide +kernel, by decide +kernel, by decide +kernel⟩
theorem MV_m_load : MV M_m_load := ⟨tb 961 (by decide +kernel) rfl, tb 962 (by decide +kernel) rfl⟩
theorem NP_m_load : NP M_m_load 0 := by decide +kernel
theorem MF_m_fault : MF M_m_fault := ⟨tb 967 (by decide +kernel) rfl, tb 10 (by decide +kernel) rfl, by decide +kernel, by decide +kernel, by decide +kernel⟩
theorem MV_m_fault : MV M_m_fault := ⟨tb 966 (by decide +kernel) rfl, tbs (n := 33) 60 (by decide +kernel)⟩
theorem NP_m_fault : NP M_m_fault 0 := by decide +kernel
theorem MF_m_head : MF M_m_head := ⟨tb 971 (by decide +kernel) rfl, tb 10 (by decide +kernel) rfl, by decide +kernel, by decide +kernel, by decide +kernel⟩
theorem MV_m_head : MV M_m_head := ⟨tb 970 (by decide +kernel) rfl, tbs (n := 33) 61 (by decide +kernel)⟩
theorem NP_m_head : NP M_m_head 0 := by decide +kernel
theorem MF_m_two : MF M_m_two := ⟨tb 975 (by decide +kernel) rfl, tb 10 (by decide +kernel) rfl, by decide +kernel, by decide +kernel, by decide +kernel⟩
theorem MV_m_two : MV M_m_two := ⟨tb 974 (by decide +kernel) rfl, tbs (n := 33) 62 (by decide +kernel)⟩
theorem NP_m_two : NP M_m_two 1 := by decide +kernel
theorem FL_t_9 : FL "QuantisedLists$Turn" 9 1 0 := ⟨_, _, _, rfl, by decide, rfl, Or.inl (tb 26 (by decide +kernel) rfl)⟩
theorem FL_q_291 : FL "QuantisedLists" 291 1 0 := ⟨_, _, _, rfl, by decide, rfl, Or.inr ⟨"QuantisedLists", tbn 27 (by decide +kernel) rfl⟩⟩
theorem FL_s_11 : FL "QuantisedLists$Samples" 11 2 0 := ⟨_, _, _, rfl, by decide, rfl, Or.inl (tb 40 (by decide +kernel) rfl)⟩
theorem FL_q_77 : FL "QuantisedLists" 77 2 0 := ⟨_, _, _, rfl, by decide, rfl, Or.inr ⟨"QuantisedLists", tbn 41 (by decide +kernel) rfl⟩⟩
theorem FL_q_73 : FL "QuantisedLists" 73 2 1 := ⟨_, _, _, rfl, by decide, rfl, Or.inr ⟨"QuantisedLists", tbn 42 (by decide +kernel) rfl⟩⟩
theorem FL_c_11 : FL "QuantisedLists$Clustering" 11 3 0 := ⟨_, _, _, rfl, by decide, rfl, Or.inl (tb 55 (by decide +kernel) rfl)⟩
theorem FL_q_236 : FL "QuantisedLists" 236 3 0 := ⟨_, _, _, rfl, by decide, rfl, Or.inr ⟨"QuantisedLists", tbn 56 (by decide +kernel) rfl⟩⟩
theorem FL_c_16 : FL "QuantisedLists$Clustering" 16 3 1 := ⟨_, _, _, rfl, by decide, rfl, Or.inl (tb 57 (by decide +kernel) rfl)⟩
theorem FL_c_19 : FL "QuantisedLists$Clustering" 19 3 2 := ⟨_, _, _, rfl, by decide, rfl, Or.inl (tb 58 (by decide +kernel) rfl)⟩
theorem FL_c_22 : FL "QuantisedLists$Clustering" 22 3 3 := ⟨_, _, _, rfl, by decide, rfl, Or.inl (tb 59 (by decide +kernel) rfl)⟩
theorem FL_c_26 : FL "QuantisedLists$Clustering" 26 3 4 := ⟨_, _, _, rfl, by decide, rfl, Or.inl (tb 60 (by decide +kernel) rfl)⟩
theorem FL_c_51 : FL "QuantisedLists$Clustering" 51 3 5 := ⟨_, _, _, rfl, by decide, rfl, Or.inl (tb 61 (by decide +kernel) rfl)⟩
theorem FL_q_233 : FL "QuantisedLists" 233 3 5 := ⟨_, _, _, rfl, by decide, rfl, Or.inr ⟨"QuantisedLists", tbn 62 (by decide +kernel) rfl⟩⟩
theorem FL_c_29 : FL "QuantisedLists$Clustering" 29 3 6 := ⟨_, _, _, rfl, by decide, rfl, Or.inl (tb 63 (by decide +kernel) rfl)⟩
theorem FL_c_33 : FL "QuantisedLists$Clustering" 33 3 7 := ⟨_, _, _, rfl, by decide, rfl, Or.inl (tb 64 (by decide +kernel) rfl)⟩
theorem FL_c_36 : FL "QuantisedLists$Clustering" 36 3 8 := ⟨_, _, _, rfl, by decide, rfl, Or.inl (tb 65 (by decide +kernel) rfl)⟩
theorem FL_z_11 : FL "QuantisedLists$Quantiser" 11 4 0 := ⟨_, _, _, rfl, by decide, rfl, Or.inl (tb 92 (by decide +kernel) rfl)⟩
theorem FL_q_111 : FL "QuantisedLists" 111 4 0 := ⟨_, _, _, rfl, by decide, rfl, Or.inr ⟨"QuantisedLists", tbn 93 (by decide +kernel) rfl⟩⟩
theorem FL_z_16 : FL "QuantisedLists$Quantiser" 16 4 1 := ⟨_, _, _, rfl, by decide, rfl, Or.inl (tb 94 (by decide +kernel) rfl)⟩
theorem FL_q_125 : FL "QuantisedLists" 125 4 1 := ⟨_, _, _, rfl, by decide, rfl, Or.inr ⟨"QuantisedLists", tbn 95 (by decide +kernel) rfl⟩⟩
theorem FL_z_19 : FL "QuantisedLists$Quantiser" 19 4 2 := ⟨_, _, _, rfl, by decide, rfl, Or.inl (tb 96 (by decide +kernel) rfl)⟩
theorem FL_z_23 : FL "QuantisedLists$Quantiser" 23 4 3 := ⟨_, _, _, rfl, by decide, rfl, Or.inl (tb 97 (by decide +kernel) rfl)⟩
theorem FL_q_62 : FL "QuantisedLists" 62 4 3 := ⟨_, _, _, rfl, by decide, rfl, Or.inr ⟨"QuantisedLists", tbn 98 (by decide +kernel) rfl⟩⟩
theorem FL_z_27 : FL "QuantisedLists$Quantiser" 27 4 4 := ⟨_, _, _, rfl, by decide, rfl, Or.inl (tb 99 (by decide +kernel) rfl)⟩
theorem FL_q_118 : FL "QuantisedLists" 118 4 4 := ⟨_, _, _, rfl, by decide, rfl, Or.inr ⟨"QuantisedLists", tbn 100 (by decide +kernel) rfl⟩⟩
theorem FL_z_31 : FL "QuantisedLists$Quantiser" 31 4 5 := ⟨_, _, _, rfl, by decide, rfl, Or.inl (tb 101 (by decide +kernel) rfl)⟩
theorem FL_q_239 : FL "QuantisedLists" 239 4 5 := ⟨_, _, _, rfl, by decide, rfl, Or.inr ⟨"QuantisedLists", tbn 102 (by decide +kernel) rfl⟩⟩
theorem FL_z_34 : FL "QuantisedLists$Quantiser" 34 4 6 := ⟨_, _, _, rfl, by decide, rfl, Or.inl (tb 103 (by decide +kernel) rfl)⟩
theorem FL_q_260 : FL "QuantisedLists" 260 4 6 := ⟨_, _, _, rfl, by decide, rfl, Or.inr ⟨"QuantisedLists", tbn 104 (by decide +kernel) rfl⟩⟩
theorem FL_e_9 : FL "QuantisedLists$Entry" 9 9 0 := ⟨_, _, _, rfl, by decide, rfl, Or.inl (tb 133 (by decide +kernel) rfl)⟩
theorem FL_q_283 : FL "QuantisedLists" 283 9 0 := ⟨_, _, _, rfl, by decide, rfl, Or.inr ⟨"QuantisedLists", tbn 134 (by decide +kernel) rfl⟩⟩
theorem FL_e_15 : FL "QuantisedLists$Entry" 15 9 1 := ⟨_, _, _, rfl, by decide, rfl, Or.inl (tb 135 (by decide +kernel) rfl)⟩
theorem FL_f_90 : FL "QuantisedLists$Finder" 90 9 1 := ⟨_, _, _, rfl, by decide, rfl, Or.inr ⟨"QuantisedLists", tbn 136 (by decide +kernel) rfl⟩⟩
theorem FL_z_60 : FL "QuantisedLists$Quantiser" 60 9 1 := ⟨_, _, _, rfl, by decide, rfl, Or.inr ⟨"QuantisedLists", tbn 137 (by decide +kernel) rfl⟩⟩
theorem FL_q_284 : FL "QuantisedLists" 284 9 1 := ⟨_, _, _, rfl, by decide, rfl, Or.inr ⟨"QuantisedLists", tbn 138 (by decide +kernel) rfl⟩⟩
theorem FL_e_18 : FL "QuantisedLists$Entry" 18 9 2 := ⟨_, _, _, rfl, by decide, rfl, Or.inl (tb 139 (by decide +kernel) rfl)⟩
theorem FL_z_76 : FL "QuantisedLists$Quantiser" 76 9 2 := ⟨_, _, _, rfl, by decide, rfl, Or.inr ⟨"QuantisedLists", tbn 140 (by decide +kernel) rfl⟩⟩
theorem FL_b_22 : FL "QuantisedLists$EntryTable" 22 9 3 := ⟨_, _, _, rfl, by decide, rfl, Or.inr ⟨"QuantisedLists", tbn 141 (by decide +kernel) rfl⟩⟩
theorem FL_f_100 : FL "QuantisedLists$Finder" 100 9 3 := ⟨_, _, _, rfl, by decide, rfl, Or.inr ⟨"QuantisedLists", tbn 142 (by decide +kernel) rfl⟩⟩
theorem FL_q_297 : FL "QuantisedLists" 297 9 3 := ⟨_, _, _, rfl, by decide, rfl, Or.inr ⟨"QuantisedLists", tbn 143 (by decide +kernel) rfl⟩⟩
theorem FL_b_25 : FL "QuantisedLists$EntryTable" 25 9 4 := ⟨_, _, _, rfl, by decide, rfl, Or.inr ⟨"QuantisedLists", tbn 144 (by decide +kernel) rfl⟩⟩
theorem FL_f_75 : FL "QuantisedLists$Finder" 75 9 4 := ⟨_, _, _, rfl, by decide, rfl, Or.inr ⟨"QuantisedLists", tbn 145 (by decide +kernel) rfl⟩⟩
theorem FL_z_69 : FL "QuantisedLists$Quantiser" 69 9 4 := ⟨_, _, _, rfl, by decide, rfl, Or.inr ⟨"QuantisedLists", tbn 146 (by decide +kernel) rfl⟩⟩
theorem FL_q_146 : FL "QuantisedLists" 146 9 4 := ⟨_, _, _, rfl, by decide, rfl, Or.inr ⟨"QuantisedLists", tbn 147 (by decide +kernel) rfl⟩⟩
theorem FL_b_11 : FL "QuantisedLists$EntryTable" 11 5 0 := ⟨_, _, _, rfl, by decide, rfl, Or.inl (tb 159 (by decide +kernel) rfl)⟩
theorem FL_f_71 : FL "QuantisedLists$Finder" 71 5 0 := ⟨_, _, _, rfl, by decide, rfl, Or.inr ⟨"QuantisedLists", tbn 160 (by decide +kernel) rfl⟩⟩
theorem FL_q_142 : FL "QuantisedLists" 142 5 0 := ⟨_, _, _, rfl, by decide, rfl, Or.inr ⟨"QuantisedLists", tbn 161 (by decide +kernel) rfl⟩⟩
theorem FL_b_18 : FL "QuantisedLists$EntryTable" 18 5 1 := ⟨_, _, _, rfl, by decide, rfl, Or.inl (tb 162 (by decide +kernel) rfl)⟩
theorem FL_f_66 : FL "QuantisedLists$Finder" 66 5 1 := ⟨_, _, _, rfl, by decide, rfl, Or.inr ⟨"QuantisedLists", tbn 163 (by decide +kernel) rfl⟩⟩
theorem FL_q_85 : FL "QuantisedLists" 85 5 1 := ⟨_, _, _, rfl, by decide, rfl, Or.inr ⟨"QuantisedLists", tbn 164 (by decide +kernel) rfl⟩⟩
theorem FL_f_9 : FL "QuantisedLists$Finder" 9 6 0 := ⟨_, _, _, rfl, by decide, rfl, Or.inl (tb 176 (by decide +kernel) rfl)⟩
theorem FL_q_164 : FL "QuantisedLists" 164 6 0 := ⟨_, _, _, rfl, by decide, rfl, Or.inr ⟨"QuantisedLists", tbn 177 (by decide +kernel) rfl⟩⟩
theorem FL_f_15 : FL "QuantisedLists$Finder" 15 6 1 := ⟨_, _, _, rfl, by decide, rfl, Or.inl (tb 178 (by decide +kernel) rfl)⟩
theorem FL_q_168 : FL "QuantisedLists" 168 6 1 := ⟨_, _, _, rfl, by decide, rfl, Or.inr ⟨"QuantisedLists", tbn 179 (by decide +kernel) rfl⟩⟩
theorem FL_f_18 : FL "QuantisedLists$Finder" 18 6 2 := ⟨_, _, _, rfl, by decide, rfl, Or.inl (tb 180 (by decide +kernel) rfl)⟩
theorem FL_f_21 : FL "QuantisedLists$Finder" 21 6 3 := ⟨_, _, _, rfl, by decide, rfl, Or.inl (tb 181 (by decide +kernel) rfl)⟩
theorem FL_q_188 : FL "QuantisedLists" 188 6 3 := ⟨_, _, _, rfl, by decide, rfl, Or.inr ⟨"QuantisedLists", tbn 182 (by decide +kernel) rfl⟩⟩
theorem FL_f_24 : FL "QuantisedLists$Finder" 24 6 4 := ⟨_, _, _, rfl, by decide, rfl, Or.inl (tb 183 (by decide +kernel) rfl)⟩
theorem FL_q_185 : FL "QuantisedLists" 185 6 4 := ⟨_, _, _, rfl, by decide, rfl, Or.inr ⟨"QuantisedLists", tbn 184 (by decide +kernel) rfl⟩⟩
theorem FL_f_27 : FL "QuantisedLists$Finder" 27 6 5 := ⟨_, _, _, rfl, by decide, rfl, Or.inl (tb 185 (by decide +kernel) rfl)⟩
theorem FL_q_158 : FL "QuantisedLists" 158 6 5 := ⟨_, _, _, rfl, by decide, rfl, Or.inr ⟨"QuantisedLists", tbn 186 (by decide +kernel) rfl⟩⟩
theorem FL_f_31 : FL "QuantisedLists$Finder" 31 6 6 := ⟨_, _, _, rfl, by decide, rfl, Or.inl (tb 187 (by decide +kernel) rfl)⟩
theorem FL_q_161 : FL "QuantisedLists" 161 6 6 := ⟨_, _, _, rfl, by decide, rfl, Or.inr ⟨"QuantisedLists", tbn 188 (by decide +kernel) rfl⟩⟩
theorem FL_f_45 : FL "QuantisedLists$Finder" 45 6 7 := ⟨_, _, _, rfl, by decide, rfl, Or.inl (tb 189 (by decide +kernel) rfl)⟩
theorem FL_q_191 : FL "QuantisedLists" 191 6 7 := ⟨_, _, _, rfl, by decide, rfl, Or.inr ⟨"QuantisedLists", tbn 190 (by decide +kernel) rfl⟩⟩
theorem FL_f_34 : FL "QuantisedLists$Finder" 34 6 8 := ⟨_, _, _, rfl, by decide, rfl, Or.inl (tb 191 (by decide +kernel) rfl)⟩
theorem FL_q_179 : FL "QuantisedLists" 179 6 8 := ⟨_, _, _, rfl, by decide, rfl, Or.inr ⟨"QuantisedLists", tbn 192 (by decide +kernel) rfl⟩⟩
theorem FL_y_11 : FL "QuantisedLists$ByteFile" 11 7 0 := ⟨_, _, _, rfl, by decide, rfl, Or.inl (tb 218 (by decide +kernel) rfl)⟩
theorem FL_q_215 : FL "QuantisedLists" 215 7 0 := ⟨_, _, _, rfl, by decide, rfl, Or.inr ⟨"QuantisedLists", tbn 219 (by decide +kernel) rfl⟩⟩
theorem FL_y_15 : FL "QuantisedLists$ByteFile" 15 7 1 := ⟨_, _, _, rfl, by decide, rfl, Or.inl (tb 220 (by decide +kernel) rfl)⟩
theorem FL_q_194 : FL "QuantisedLists" 194 7 1 := ⟨_, _, _, rfl, by decide, rfl, Or.inr ⟨"QuantisedLists", tbn 221 (by decide +kernel) rfl⟩⟩
theorem FL_q_10 : FL "QuantisedLists" 10 0 0 := ⟨_, _, _, rfl, by decide, rfl, Or.inl (tb 227 (by decide +kernel) rfl)⟩
theorem FL_q_19 : FL "QuantisedLists" 19 0 1 := ⟨_, _, _, rfl, by decide, rfl, Or.inl (tb 228 (by decide +kernel) rfl)⟩
theorem FL_q_26 : FL "QuantisedLists" 26 0 2 := ⟨_, _, _, rfl, by decide, rfl, Or.inl (tb 229 (by decide +kernel) rfl)⟩
theorem FL_q_33 : FL "QuantisedLists" 33 0 3 := ⟨_, _, _, rfl, by decide, rfl, Or.inl (tb 230 (by decide +kernel) rfl)⟩
theorem FL_q_40 : FL "QuantisedLists" 40 0 4 := ⟨_, _, _, rfl, by decide, rfl, Or.inl (tb 231 (by decide +kernel) rfl)⟩
theorem FL_q_47 : FL "QuantisedLists" 47 0 5 := ⟨_, _, _, rfl, by decide, rfl, Or.inl (tb 232 (by decide +kernel) rfl)⟩
theorem FL_q_54 : FL "QuantisedLists" 54 0 6 := ⟨_, _, _, rfl, by decide, rfl, Or.inl (tb 233 (by decide +kernel) rfl)⟩
theorem FL_m_7 : FL "QuantisedListsModel" 7 8 0 := ⟨_, _, _, rfl, by decide, rfl, Or.inl (tb 663 (by decide +kernel) rfl)⟩
theorem FL_m_13 : FL "QuantisedListsModel" 13 8 1 := ⟨_, _, _, rfl, by decide, rfl, Or.inl (tb 664 (by decide +kernel) rfl)⟩
theorem FL_m_103 : FL "QuantisedListsModel" 103 8 2 := ⟨_, _, _, rfl, by decide, rfl, Or.inl (tb 665 (by decide +kernel) rfl)⟩
theorem FL_m_92 : FL "QuantisedListsModel" 92 8 3 := ⟨_, _, _, rfl, by decide, rfl, Or.inl (tb 666 (by decide +kernel) rfl)⟩
theorem FL_m_128 : FL "QuantisedListsModel" 128 8 4 := ⟨_, _, _, rfl, by decide, rfl, Or.inl (tb 667 (by decide +kernel) rfl)⟩
theorem FL_m_134 : FL "QuantisedListsModel" 134 8 5 := ⟨_, _, _, rfl, by decide, rfl, Or.inl (tb 668 (by decide +kernel) rfl)⟩
theorem FL_m_137 : FL "QuantisedListsModel" 137 8 6 := ⟨_, _, _, rfl, by decide, rfl, Or.inl (tb 669 (by decide +kernel) rfl)⟩
theorem FL_m_16 : FL "QuantisedListsModel" 16 8 7 := ⟨_, _, _, rfl, by decide, rfl, Or.inl (tb 670 (by decide +kernel) rfl)⟩
theorem FL_m_19 : FL "QuantisedListsModel" 19 8 8 := ⟨_, _, _, rfl, by decide, rfl, Or.inl (tb 671 (by decide +kernel) rfl)⟩
theorem FL_m_22 : FL "QuantisedListsModel" 22 8 9 := ⟨_, _, _, rfl, by decide, rfl, Or.inl (tb 672 (by decide +kernel) rfl)⟩
theorem FL_m_26 : FL "QuantisedListsModel" 26 8 10 := ⟨_, _, _, rfl, by decide, rfl, Or.inl (tb 673 (by decide +kernel) rfl)⟩
theorem FL_m_131 : FL "QuantisedListsModel" 131 8 11 := ⟨_, _, _, rfl, by decide, rfl, Or.inl (tb 674 (by decide +kernel) rfl)⟩
theorem FL_m_77 : FL "QuantisedListsModel" 77 8 12 := ⟨_, _, _, rfl, by decide, rfl, Or.inl (tb 675 (by decide +kernel) rfl)⟩
theorem FL_m_182 : FL "QuantisedListsModel" 182 8 13 := ⟨_, _, _, rfl, by decide, rfl, Or.inl (tb 676 (by decide +kernel) rfl)⟩
theorem FL_m_29 : FL "QuantisedListsModel" 29 8 14 := ⟨_, _, _, rfl, by decide, rfl, Or.inl (tb 677 (by decide +kernel) rfl)⟩
theorem FL_m_32 : FL "QuantisedListsModel" 32 8 15 := ⟨_, _, _, rfl, by decide, rfl, Or.inl (tb 678 (by decide +kernel) rfl)⟩
theorem FL_m_191 : FL "QuantisedListsModel" 191 8 16 := ⟨_, _, _, rfl, by decide, rfl, Or.inl (tb 679 (by decide +kernel) rfl)⟩
theorem FL_m_185 : FL "QuantisedListsModel" 185 8 17 := ⟨_, _, _, rfl, by decide, rfl, Or.inl (tb 680 (by decide +kernel) rfl)⟩
theorem FL_m_35 : FL "QuantisedListsModel" 35 8 18 := ⟨_, _, _, rfl, by decide, rfl, Or.inl (tb 681 (by decide +kernel) rfl)⟩
theorem FL_m_203 : FL "QuantisedListsModel" 203 8 19 := ⟨_, _, _, rfl, by decide, rfl, Or.inl (tb 682 (by decide +kernel) rfl)⟩
theorem FL_m_38 : FL "QuantisedListsModel" 38 8 20 := ⟨_, _, _, rfl, by decide, rfl, Or.inl (tb 683 (by decide +kernel) rfl)⟩
theorem FL_m_41 : FL "QuantisedListsModel" 41 8 21 := ⟨_, _, _, rfl, by decide, rfl, Or.inl (tb 684 (by decide +kernel) rfl)⟩
theorem FL_m_44 : FL "QuantisedListsModel" 44 8 22 := ⟨_, _, _, rfl, by decide, rfl, Or.inl (tb 685 (by decide +kernel) rfl)⟩
theorem FL_m_47 : FL "QuantisedListsModel" 47 8 23 := ⟨_, _, _, rfl, by decide, rfl, Or.inl (tb 686 (by decide +kernel) rfl)⟩
theorem FL_m_50 : FL "QuantisedListsModel" 50 8 24 := ⟨_, _, _, rfl, by decide, rfl, Or.inl (tb 687 (by decide +kernel) rfl)⟩
theorem FL_m_53 : FL "QuantisedListsModel" 53 8 25 := ⟨_, _, _, rfl, by decide, rfl, Or.inl (tb 688 (by decide +kernel) rfl)⟩
theorem FL_m_56 : FL "QuantisedListsModel" 56 8 26 := ⟨_, _, _, rfl, by decide, rfl, Or.inl (tb 689 (by decide +kernel) rfl)⟩
theorem FL_m_59 : FL "QuantisedListsModel" 59 8 27 := ⟨_, _, _, rfl, by decide, rfl, Or.inl (tb 690 (by decide +kernel) rfl)⟩
theorem FL_m_62 : FL "QuantisedListsModel" 62 8 28 := ⟨_, _, _, rfl, by decide, rfl, Or.inl (tb 691 (by decide +kernel) rfl)⟩
theorem FL_m_65 : FL "QuantisedListsModel" 65 8 29 := ⟨_, _, _, rfl, by decide, rfl, Or.inl (tb 692 (by decide +kernel) rfl)⟩
theorem FL_m_68 : FL "QuantisedListsModel" 68 8 30 := ⟨_, _, _, rfl, by decide, rfl, Or.inl (tb 693 (by decide +kernel) rfl)⟩
theorem FL_m_71 : FL "QuantisedListsModel" 71 8 31 := ⟨_, _, _, rfl, by decide, rfl, Or.inl (tb 694 (by decide +kernel) rfl)⟩
theorem FL_m_74 : FL "QuantisedListsModel" 74 8 32 := ⟨_, _, _, rfl, by decide, rfl, Or.inl (tb 695 (by decide +kernel) rfl)⟩
theorem LK_l_13 : LK "QuantisedListsLaw" 13 ⟨"QuantisedLists", "turn", "(IIII)Z"⟩ := Or.inl (tb 249 (by decide +kernel) rfl)
theorem LK_q_58 : LK "QuantisedLists" 58 ⟨"QuantisedLists$Turn", "allows", "(IIII)Z"⟩ := Or.inl (tb 253 (by decide +kernel) rfl)
theorem LK_t_15 : LK "QuantisedLists$Turn" 15 ⟨"QuantisedLists$Turn", "isStep", "(I)Z"⟩ := Or.inl (tb 256 (by decide +kernel) rfl)
theorem LK_t_23 : LK "QuantisedLists$Turn" 23 ⟨"QuantisedLists", "isWithin", "(III)Z"⟩ := Or.inr ⟨"QuantisedLists", tbn 259 (by decide +kernel) rfl⟩
theorem LK_t_19 : LK "QuantisedLists$Turn" 19 ⟨"QuantisedLists$Turn", "axisBit", "(I)I"⟩ := Or.inl (tb 262 (by decide +kernel) rfl)
theorem LK_t_27 : LK "QuantisedLists$Turn" 27 ⟨"java/lang/Math", "abs", "(I)I"⟩ := Or.inl (tb 265 (by decide +kernel) rfl)
theorem LK_q_66 : LK "QuantisedLists" 66 ⟨"QuantisedLists$Turn", "become", "(IIII)V"⟩ := Or.inl (tb 268 (by decide +kernel) rfl)
theorem LK_t_32 : LK "QuantisedLists$Turn" 32 ⟨"QuantisedLists", "setPoint", "([IIIII)V"⟩ := Or.inr ⟨"QuantisedLists", tbn 272 (by decide +kernel) rfl⟩
theorem LK_l_18 : LK "QuantisedListsLaw" 18 ⟨"QuantisedLists", "sample", "(IIII)Z"⟩ := Or.inl (tb 275 (by decide +kernel) rfl)
theorem LK_q_70 : LK "QuantisedLists" 70 ⟨"QuantisedLists", "isBad", "(IIII)Z"⟩ := Or.inl (tb 279 (by decide +kernel) rfl)
theorem LK_q_86 : LK "QuantisedLists" 86 ⟨"QuantisedLists", "isWithin", "(III)Z"⟩ := Or.inl (tb 282 (by decide +kernel) rfl)
theorem LK_q_81 : LK "QuantisedLists" 81 ⟨"QuantisedLists", "setPoint", "([IIIII)V"⟩ := Or.inl (tb 283 (by decide +kernel) rfl)
theorem LK_l_22 : LK "QuantisedListsLaw" 22 ⟨"QuantisedLists", "train", "(IIII)I"⟩ := Or.inl (tb 284 (by decide +kernel) rfl)
theorem LK_q_90 : LK "QuantisedLists" 90 ⟨"QuantisedLists$Quantiser", "become", "(III)V"⟩ := Or.inl (tb 288 (by decide +kernel) rfl)
theorem LK_q_93 : LK "QuantisedLists" 93 ⟨"QuantisedLists", "learnCentres", "(I)V"⟩ := Or.inl (tb 292 (by decide +kernel) rfl)
theorem LK_q_171 : LK "QuantisedLists" 171 ⟨"QuantisedLists$Turn", "apply", "([I[I)V"⟩ := Or.inl (tb 296 (by decide +kernel) rfl)
theorem LK_q_242 : LK "QuantisedLists" 242 ⟨"QuantisedLists$Clustering", "cluster", "(IIII)V"⟩ := Or.inl (tb 300 (by decide +kernel) rfl)
theorem LK_c_39 : LK "QuantisedLists$Clustering" 39 ⟨"QuantisedLists$Clustering", "chooseCentres", "()V"⟩ := Or.inl (tb 304 (by decide +kernel) rfl)
theorem LK_c_63 : LK "QuantisedLists$Clustering" 63 ⟨"QuantisedLists$Clustering", "beginCentre", "(II)V"⟩ := Or.inl (tb 308 (by decide +kernel) rfl)
theorem LK_c_67 : LK "QuantisedLists$Clustering" 67 ⟨"QuantisedLists$Clustering", "farthestItem", "(I)I"⟩ := Or.inl (tb 312 (by decide +kernel) rfl)
theorem LK_c_71 : LK "QuantisedLists$Clustering" 71 ⟨"QuantisedLists", "nearestRow", "([[III[III)I"⟩ := Or.inr ⟨"QuantisedLists", tbn 316 (by decide +kernel) rfl⟩
theorem LK_q_312 : LK "QuantisedLists" 312 ⟨"QuantisedLists", "distance", "([I[III)I"⟩ := Or.inl (tb 319 (by decide +kernel) rfl)
theorem LK_c_75 : LK "QuantisedLists$Clustering" 75 ⟨"QuantisedLists", "distance", "([I[III)I"⟩ := Or.inr ⟨"QuantisedLists", tbn 322 (by decide +kernel) rfl⟩
theorem LK_c_42 : LK "QuantisedLists$Clustering" 42 ⟨"QuantisedLists$Clustering", "countMembers", "()V"⟩ := Or.inl (tb 323 (by decide +kernel) rfl)
theorem LK_c_45 : LK "QuantisedLists$Clustering" 45 ⟨"QuantisedLists$Clustering", "moveToMeans", "()V"⟩ := Or.inl (tb 327 (by decide +kernel) rfl)
theorem LK_c_79 : LK "QuantisedLists$Clustering" 79 ⟨"java/lang/Math", "floorDiv", "(II)I"⟩ := Or.inl (tb 331 (by decide +kernel) rfl)
theorem LK_c_48 : LK "QuantisedLists$Clustering" 48 ⟨"QuantisedLists$Clustering", "fillEmptyCentres", "()V"⟩ := Or.inl (tb 334 (by decide +kernel) rfl)
end
section
theorem LK_c_82 : LK "QuantisedLists$Clustering" 82 ⟨"QuantisedLists$Clustering", "greatestShare", "()I"⟩ := Or.inl (tb 338 (by decide +kernel) rfl)
theorem LK_c_86 : LK "QuantisedLists$Clustering" 86 ⟨"QuantisedLists$Clustering", "splitInto", "(II)V"⟩ := Or.inl (tb 342 (by decide +kernel) rfl)
theorem LK_q_245 : LK "QuantisedLists" 245 ⟨"QuantisedLists$Clustering", "giveCentres", "([[II)V"⟩ := Or.inl (tb 346 (by decide +kernel) rfl)
theorem LK_q_97 : LK "QuantisedLists" 97 ⟨"QuantisedLists", "keepWhatIsLeft", "()V"⟩ := Or.inl (tb 350 (by decide +kernel) rfl)
theorem LK_q_249 : LK "QuantisedLists" 249 ⟨"QuantisedLists$Quantiser", "nearestList", "([I)I"⟩ := Or.inl (tb 354 (by decide +kernel) rfl)
theorem LK_z_45 : LK "QuantisedLists$Quantiser" 45 ⟨"QuantisedLists", "nearestRow", "([[III[III)I"⟩ := Or.inr ⟨"QuantisedLists", tbn 358 (by decide +kernel) rfl⟩
theorem LK_q_253 : LK "QuantisedLists" 253 ⟨"QuantisedLists", "subtract", "([I[I[I)V"⟩ := Or.inl (tb 359 (by decide +kernel) rfl)
theorem LK_q_100 : LK "QuantisedLists" 100 ⟨"QuantisedLists", "learnWords", "(I)V"⟩ := Or.inl (tb 362 (by decide +kernel) rfl)
theorem LK_q_121 : LK "QuantisedLists" 121 ⟨"QuantisedLists", "partWidthOf", "(I)I"⟩ := Or.inl (tb 366 (by decide +kernel) rfl)
theorem LK_q_257 : LK "QuantisedLists" 257 ⟨"QuantisedLists", "partsOf", "(I)I"⟩ := Or.inl (tb 369 (by decide +kernel) rfl)
theorem LK_q_128 : LK "QuantisedLists" 128 ⟨"QuantisedLists", "wordRow", "(II)I"⟩ := Or.inl (tb 372 (by decide +kernel) rfl)
theorem LK_q_263 : LK "QuantisedLists" 263 ⟨"QuantisedLists$Clustering", "least", "(I)I"⟩ := Or.inl (tb 375 (by decide +kernel) rfl)
theorem LK_c_54 : LK "QuantisedLists$Clustering" 54 ⟨"java/lang/Math", "min", "(II)I"⟩ := Or.inl (tb 379 (by decide +kernel) rfl)
theorem LK_q_266 : LK "QuantisedLists" 266 ⟨"QuantisedLists$Clustering", "greatest", "(I)I"⟩ := Or.inl (tb 382 (by decide +kernel) rfl)
theorem LK_c_60 : LK "QuantisedLists$Clustering" 60 ⟨"java/lang/Math", "max", "(II)I"⟩ := Or.inl (tb 386 (by decide +kernel) rfl)
theorem LK_q_269 : LK "QuantisedLists" 269 ⟨"QuantisedLists$Quantiser", "spreadWords", "(III)V"⟩ := Or.inl (tb 389 (by decide +kernel) rfl)
theorem LK_z_52 : LK "QuantisedLists$Quantiser" 52 ⟨"QuantisedLists", "wordRow", "(II)I"⟩ := Or.inr ⟨"QuantisedLists", tbn 393 (by decide +kernel) rfl⟩
theorem LK_q_103 : LK "QuantisedLists" 103 ⟨"QuantisedLists", "trainingError", "()I"⟩ := Or.inl (tb 394 (by decide +kernel) rfl)
theorem LK_q_272 : LK "QuantisedLists" 272 ⟨"QuantisedLists$Quantiser", "nearestWord", "(I[I)I"⟩ := Or.inl (tb 398 (by decide +kernel) rfl)
theorem LK_z_49 : LK "QuantisedLists$Quantiser" 49 ⟨"QuantisedLists", "partWidthOf", "(I)I"⟩ := Or.inr ⟨"QuantisedLists", tbn 402 (by decide +kernel) rfl⟩
theorem LK_q_276 : LK "QuantisedLists" 276 ⟨"QuantisedLists$Quantiser", "wordDistance", "(II[I)I"⟩ := Or.inl (tb 403 (by decide +kernel) rfl)
theorem LK_z_56 : LK "QuantisedLists$Quantiser" 56 ⟨"QuantisedLists", "distance", "([I[III)I"⟩ := Or.inr ⟨"QuantisedLists", tbn 407 (by decide +kernel) rfl⟩
theorem LK_l_27 : LK "QuantisedListsLaw" 27 ⟨"QuantisedLists", "centre", "(II)I"⟩ := Or.inl (tb 408 (by decide +kernel) rfl)
theorem LK_q_107 : LK "QuantisedLists" 107 ⟨"QuantisedLists$Quantiser", "hasList", "(I)Z"⟩ := Or.inl (tb 412 (by decide +kernel) rfl)
theorem LK_z_37 : LK "QuantisedLists$Quantiser" 37 ⟨"QuantisedLists", "isWithin", "(III)Z"⟩ := Or.inr ⟨"QuantisedLists", tbn 416 (by decide +kernel) rfl⟩
theorem LK_l_32 : LK "QuantisedListsLaw" 32 ⟨"QuantisedLists", "word", "(III)I"⟩ := Or.inl (tb 417 (by decide +kernel) rfl)
theorem LK_q_114 : LK "QuantisedLists" 114 ⟨"QuantisedLists$Quantiser", "hasWord", "(II)Z"⟩ := Or.inl (tb 421 (by decide +kernel) rfl)
theorem LK_z_41 : LK "QuantisedLists$Quantiser" 41 ⟨"QuantisedLists", "partsOf", "(I)I"⟩ := Or.inr ⟨"QuantisedLists", tbn 425 (by decide +kernel) rfl⟩
theorem LK_l_37 : LK "QuantisedListsLaw" 37 ⟨"QuantisedLists", "add", "(IIIII)I"⟩ := Or.inl (tb 426 (by decide +kernel) rfl)
theorem LK_q_132 : LK "QuantisedLists" 132 ⟨"QuantisedLists$EntryTable", "placeOf", "(I)I"⟩ := Or.inl (tb 430 (by decide +kernel) rfl)
theorem LK_q_135 : LK "QuantisedLists" 135 ⟨"QuantisedLists", "putEntry", "(IIIII)I"⟩ := Or.inl (tb 434 (by decide +kernel) rfl)
theorem LK_q_280 : LK "QuantisedLists" 280 ⟨"QuantisedLists$EntryTable", "makeRoom", "(I)I"⟩ := Or.inl (tb 438 (by decide +kernel) rfl)
theorem LK_q_287 : LK "QuantisedLists" 287 ⟨"QuantisedLists$Quantiser", "encode", "(LQuantisedLists$Entry;)V"⟩ := Or.inl (tb 442 (by decide +kernel) rfl)
theorem LK_z_65 : LK "QuantisedLists$Quantiser" 65 ⟨"QuantisedLists$Quantiser", "nearestList", "([I)I"⟩ := Or.inl (tb 446 (by decide +kernel) rfl)
theorem LK_z_72 : LK "QuantisedLists$Quantiser" 72 ⟨"QuantisedLists", "subtract", "([I[I[I)V"⟩ := Or.inr ⟨"QuantisedLists", tbn 447 (by decide +kernel) rfl⟩
theorem LK_z_79 : LK "QuantisedLists$Quantiser" 79 ⟨"QuantisedLists$Quantiser", "nearestWord", "(I[I)I"⟩ := Or.inl (tb 448 (by decide +kernel) rfl)
theorem LK_l_42 : LK "QuantisedListsLaw" 42 ⟨"QuantisedLists", "remove", "(I)Z"⟩ := Or.inl (tb 449 (by decide +kernel) rfl)
theorem LK_q_139 : LK "QuantisedLists" 139 ⟨"QuantisedLists$EntryTable", "drop", "(I)V"⟩ := Or.inl (tb 453 (by decide +kernel) rfl)
theorem LK_l_47 : LK "QuantisedListsLaw" 47 ⟨"QuantisedLists", "listOf", "(I)I"⟩ := Or.inl (tb 457 (by decide +kernel) rfl)
theorem LK_l_52 : LK "QuantisedListsLaw" 52 ⟨"QuantisedLists", "codeOf", "(I)I"⟩ := Or.inl (tb 461 (by decide +kernel) rfl)
theorem LK_q_151 : LK "QuantisedLists" 151 ⟨"QuantisedLists$Quantiser", "codeAsNumber", "(LQuantisedLists$Entry;)I"⟩ := Or.inl (tb 465 (by decide +kernel) rfl)
theorem LK_l_56 : LK "QuantisedListsLaw" 56 ⟨"QuantisedLists", "entries", "(I)I"⟩ := Or.inl (tb 469 (by decide +kernel) rfl)
theorem LK_q_155 : LK "QuantisedLists" 155 ⟨"QuantisedLists$EntryTable", "countInList", "(I)I"⟩ := Or.inl (tb 473 (by decide +kernel) rfl)
theorem LK_l_60 : LK "QuantisedListsLaw" 60 ⟨"QuantisedLists", "effort", "(II)Z"⟩ := Or.inl (tb 477 (by decide +kernel) rfl)
theorem LK_l_65 : LK "QuantisedListsLaw" 65 ⟨"QuantisedLists", "search", "(IIIII)I"⟩ := Or.inl (tb 481 (by decide +kernel) rfl)
theorem LK_q_175 : LK "QuantisedLists" 175 ⟨"QuantisedLists$Finder", "find", "(LQuantisedLists$Quantiser;LQuantisedLists$EntryTable;I)V"⟩ := Or.inl (tb 485 (by decide +kernel) rfl)
theorem LK_f_41 : LK "QuantisedLists$Finder" 41 ⟨"QuantisedLists$Finder", "lookThrough", "(LQuantisedLists$Quantiser;LQuantisedLists$EntryTable;)V"⟩ := Or.inl (tb 489 (by decide +kernel) rfl)
theorem LK_f_80 : LK "QuantisedLists$Finder" 80 ⟨"QuantisedLists$Quantiser", "listsBefore", "(I[I)I"⟩ := Or.inl (tb 493 (by decide +kernel) rfl)
theorem LK_f_86 : LK "QuantisedLists$Finder" 86 ⟨"QuantisedLists$Quantiser", "codeDistance", "([ILQuantisedLists$Entry;)I"⟩ := Or.inl (tb 497 (by decide +kernel) rfl)
theorem LK_z_83 : LK "QuantisedLists$Quantiser" 83 ⟨"QuantisedLists$Quantiser", "wordDistance", "(II[I)I"⟩ := Or.inl (tb 501 (by decide +kernel) rfl)
theorem LK_f_48 : LK "QuantisedLists$Finder" 48 ⟨"QuantisedLists$Finder", "sort", "(I)V"⟩ := Or.inl (tb 502 (by decide +kernel) rfl)
theorem LK_f_97 : LK "QuantisedLists$Finder" 97 ⟨"QuantisedLists$Finder", "isBefore", "(III)Z"⟩ := Or.inl (tb 506 (by decide +kernel) rfl)
theorem LK_f_52 : LK "QuantisedLists$Finder" 52 ⟨"java/lang/Math", "min", "(II)I"⟩ := Or.inl (tb 510 (by decide +kernel) rfl)
theorem LK_f_58 : LK "QuantisedLists$Finder" 58 ⟨"QuantisedLists$Finder", "measure", "(LQuantisedLists$EntryTable;I)V"⟩ := Or.inl (tb 511 (by decide +kernel) rfl)
theorem LK_f_93 : LK "QuantisedLists$Finder" 93 ⟨"QuantisedLists", "distance", "([I[III)I"⟩ := Or.inr ⟨"QuantisedLists", tbn 515 (by decide +kernel) rfl⟩
theorem LK_f_62 : LK "QuantisedLists$Finder" 62 ⟨"QuantisedLists$Finder", "keepIds", "(LQuantisedLists$EntryTable;)V"⟩ := Or.inl (tb 516 (by decide +kernel) rfl)
theorem LK_l_69 : LK "QuantisedListsLaw" 69 ⟨"QuantisedLists", "hit", "(I)I"⟩ := Or.inl (tb 520 (by decide +kernel) rfl)
theorem LK_q_182 : LK "QuantisedLists" 182 ⟨"QuantisedLists$Finder", "hasResult", "(I)Z"⟩ := Or.inl (tb 524 (by decide +kernel) rfl)
theorem LK_f_37 : LK "QuantisedLists$Finder" 37 ⟨"QuantisedLists", "isWithin", "(III)Z"⟩ := Or.inr ⟨"QuantisedLists", tbn 528 (by decide +kernel) rfl⟩
theorem LK_l_73 : LK "QuantisedListsLaw" 73 ⟨"QuantisedLists", "far", "(I)I"⟩ := Or.inl (tb 529 (by decide +kernel) rfl)
theorem LK_l_77 : LK "QuantisedListsLaw" 77 ⟨"QuantisedLists", "scanned", "()I"⟩ := Or.inl (tb 533 (by decide +kernel) rfl)
theorem LK_l_82 : LK "QuantisedListsLaw" 82 ⟨"QuantisedLists", "save", "()I"⟩ := Or.inl (tb 537 (by decide +kernel) rfl)
theorem LK_q_197 : LK "QuantisedLists" 197 ⟨"QuantisedLists", "writeHead", "()V"⟩ := Or.inl (tb 541 (by decide +kernel) rfl)
theorem LK_q_212 : LK "QuantisedLists" 212 ⟨"QuantisedLists$ByteFile", "put", "(I)V"⟩ := Or.inl (tb 545 (by decide +kernel) rfl)
theorem LK_q_200 : LK "QuantisedLists" 200 ⟨"QuantisedLists", "writeCentres", "()V"⟩ := Or.inl (tb 549 (by decide +kernel) rfl)
theorem LK_q_294 : LK "QuantisedLists" 294 ⟨"QuantisedLists$ByteFile", "putPair", "(I)V"⟩ := Or.inl (tb 553 (by decide +kernel) rfl)
theorem LK_y_19 : LK "QuantisedLists$ByteFile" 19 ⟨"QuantisedLists$ByteFile", "put", "(I)V"⟩ := Or.inl (tb 557 (by decide +kernel) rfl)
theorem LK_q_203 : LK "QuantisedLists" 203 ⟨"QuantisedLists", "writeWords", "()V"⟩ := Or.inl (tb 558 (by decide +kernel) rfl)
theorem LK_q_206 : LK "QuantisedLists" 206 ⟨"QuantisedLists", "writeEntries", "()V"⟩ := Or.inl (tb 562 (by decide +kernel) rfl)
theorem LK_q_209 : LK "QuantisedLists" 209 ⟨"QuantisedLists$ByteFile", "checkOf", "(I)I"⟩ := Or.inl (tb 566 (by decide +kernel) rfl)
theorem LK_l_86 : LK "QuantisedListsLaw" 86 ⟨"QuantisedLists", "alter", "(II)Z"⟩ := Or.inl (tb 570 (by decide +kernel) rfl)
theorem LK_l_90 : LK "QuantisedListsLaw" 90 ⟨"QuantisedLists", "cut", "(I)Z"⟩ := Or.inl (tb 574 (by decide +kernel) rfl)
theorem LK_l_94 : LK "QuantisedListsLaw" 94 ⟨"QuantisedLists", "byteAt", "(I)I"⟩ := Or.inl (tb 578 (by decide +kernel) rfl)
theorem LK_l_98 : LK "QuantisedListsLaw" 98 ⟨"QuantisedLists", "load", "()I"⟩ := Or.inl (tb 582 (by decide +kernel) rfl)
theorem LK_q_218 : LK "QuantisedLists" 218 ⟨"QuantisedLists$ByteFile", "fault", "()I"⟩ := Or.inl (tb 586 (by decide +kernel) rfl)
theorem LK_y_30 : LK "QuantisedLists$ByteFile" 30 ⟨"QuantisedLists$ByteFile", "hasSizes", "()Z"⟩ := Or.inl (tb 590 (by decide +kernel) rfl)
theorem LK_y_52 : LK "QuantisedLists$ByteFile" 52 ⟨"QuantisedLists", "isWithin", "(III)Z"⟩ := Or.inr ⟨"QuantisedLists", tbn 594 (by decide +kernel) rfl⟩
theorem LK_y_34 : LK "QuantisedLists$ByteFile" 34 ⟨"QuantisedLists$ByteFile", "step", "(I)I"⟩ := Or.inl (tb 595 (by decide +kernel) rfl)
theorem LK_y_37 : LK "QuantisedLists$ByteFile" 37 ⟨"QuantisedLists$Turn", "allows", "(IIII)Z"⟩ := Or.inl (tb 599 (by decide +kernel) rfl)
theorem LK_y_27 : LK "QuantisedLists$ByteFile" 27 ⟨"QuantisedLists$ByteFile", "entryStart", "(I)I"⟩ := Or.inl (tb 600 (by decide +kernel) rfl)
theorem LK_y_56 : LK "QuantisedLists$ByteFile" 56 ⟨"QuantisedLists$ByteFile", "wideCount", "()I"⟩ := Or.inl (tb 604 (by decide +kernel) rfl)
theorem LK_y_43 : LK "QuantisedLists$ByteFile" 43 ⟨"QuantisedLists$ByteFile", "checkOf", "(I)I"⟩ := Or.inl (tb 608 (by decide +kernel) rfl)
theorem LK_y_46 : LK "QuantisedLists$ByteFile" 46 ⟨"QuantisedLists$ByteFile", "hasWides", "()Z"⟩ := Or.inl (tb 609 (by decide +kernel) rfl)
theorem LK_y_60 : LK "QuantisedLists$ByteFile" 60 ⟨"QuantisedLists$ByteFile", "wide", "(I)I"⟩ := Or.inl (tb 613 (by decide +kernel) rfl)
theorem LK_y_23 : LK "QuantisedLists$ByteFile" 23 ⟨"QuantisedLists$ByteFile", "pairAt", "(I)I"⟩ := Or.inl (tb 617 (by decide +kernel) rfl)
theorem LK_y_49 : LK "QuantisedLists$ByteFile" 49 ⟨"QuantisedLists$ByteFile", "hasEntries", "()Z"⟩ := Or.inl (tb 621 (by decide +kernel) rfl)
theorem LK_y_63 : LK "QuantisedLists$ByteFile" 63 ⟨"QuantisedLists$ByteFile", "entryId", "(I)I"⟩ := Or.inl (tb 625 (by decide +kernel) rfl)
theorem LK_y_66 : LK "QuantisedLists$ByteFile" 66 ⟨"QuantisedLists$ByteFile", "hasPoint", "(I)Z"⟩ := Or.inl (tb 629 (by decide +kernel) rfl)
theorem LK_y_70 : LK "QuantisedLists$ByteFile" 70 ⟨"QuantisedLists$ByteFile", "entryCoordinate", "(II)I"⟩ := Or.inl (tb 633 (by decide +kernel) rfl)
theorem LK_q_221 : LK "QuantisedLists" 221 ⟨"QuantisedLists", "readHead", "()V"⟩ := Or.inl (tb 637 (by decide +kernel) rfl)
theorem LK_q_300 : LK "QuantisedLists" 300 ⟨"QuantisedLists$ByteFile", "step", "(I)I"⟩ := Or.inl (tb 641 (by decide +kernel) rfl)
theorem LK_q_224 : LK "QuantisedLists" 224 ⟨"QuantisedLists", "readCentres", "()V"⟩ := Or.inl (tb 642 (by decide +kernel) rfl)
theorem LK_q_303 : LK "QuantisedLists" 303 ⟨"QuantisedLists$ByteFile", "wide", "(I)I"⟩ := Or.inl (tb 646 (by decide +kernel) rfl)
theorem LK_q_227 : LK "QuantisedLists" 227 ⟨"QuantisedLists", "readWords", "()V"⟩ := Or.inl (tb 647 (by decide +kernel) rfl)
theorem LK_q_230 : LK "QuantisedLists" 230 ⟨"QuantisedLists", "readEntries", "()V"⟩ := Or.inl (tb 651 (by decide +kernel) rfl)
theorem LK_q_306 : LK "QuantisedLists" 306 ⟨"QuantisedLists$ByteFile", "entryId", "(I)I"⟩ := Or.inl (tb 655 (by decide +kernel) rfl)
theorem LK_q_309 : LK "QuantisedLists" 309 ⟨"QuantisedLists$ByteFile", "entryCoordinate", "(II)I"⟩ := Or.inl (tb 656 (by decide +kernel) rfl)
theorem LK_l_17 : LK "QuantisedListsLaw" 17 ⟨"QuantisedListsModel", "turn", "(IIII)Z"⟩ := Or.inl (tb 764 (by decide +kernel) rfl)
theorem LK_m_96 : LK "QuantisedListsModel" 96 ⟨"QuantisedListsModel", "isTurn", "(IIII)Z"⟩ := Or.inl (tb 768 (by decide +kernel) rfl)
theorem LK_m_81 : LK "QuantisedListsModel" 81 ⟨"QuantisedListsModel", "bit", "(I)I"⟩ := Or.inl (tb 771 (by decide +kernel) rfl)
theorem LK_l_21 : LK "QuantisedListsLaw" 21 ⟨"QuantisedListsModel", "sample", "(IIII)Z"⟩ := Or.inl (tb 774 (by decide +kernel) rfl)
theorem LK_m_100 : LK "QuantisedListsModel" 100 ⟨"QuantisedListsModel", "give", "(IIII)Z"⟩ := Or.inl (tb 778 (by decide +kernel) rfl)
theorem LK_m_85 : LK "QuantisedListsModel" 85 ⟨"QuantisedListsModel", "within", "(III)Z"⟩ := Or.inl (tb 782 (by decide +kernel) rfl)
theorem LK_l_26 : LK "QuantisedListsLaw" 26 ⟨"QuantisedListsModel", "train", "(IIII)I"⟩ := Or.inl (tb 785 (by decide +kernel) rfl)
theorem LK_m_89 : LK "QuantisedListsModel" 89 ⟨"QuantisedListsModel", "turnIt", "()V"⟩ := Or.inl (tb 789 (by decide +kernel) rfl)
theorem LK_m_140 : LK "QuantisedListsModel" 140 ⟨"QuantisedListsModel", "cluster", "(III)V"⟩ := Or.inl (tb 793 (by decide +kernel) rfl)
theorem LK_m_110 : LK "QuantisedListsModel" 110 ⟨"QuantisedListsModel", "nearest", "(III)I"⟩ := Or.inl (tb 797 (by decide +kernel) rfl)
theorem LK_m_106 : LK "QuantisedListsModel" 106 ⟨"QuantisedListsModel", "gap", "(III)I"⟩ := Or.inl (tb 801 (by decide +kernel) rfl)
theorem LK_m_113 : LK "QuantisedListsModel" 113 ⟨"QuantisedListsModel", "mean", "(II)V"⟩ := Or.inl (tb 805 (by decide +kernel) rfl)
theorem LK_m_120 : LK "QuantisedListsModel" 120 ⟨"QuantisedListsModel", "floor", "(II)I"⟩ := Or.inl (tb 809 (by decide +kernel) rfl)
theorem LK_m_117 : LK "QuantisedListsModel" 117 ⟨"QuantisedListsModel", "fill", "(II)V"⟩ := Or.inl (tb 812 (by decide +kernel) rfl)
theorem LK_m_124 : LK "QuantisedListsModel" 124 ⟨"QuantisedListsModel", "hasMember", "(I)Z"⟩ := Or.inl (tb 816 (by decide +kernel) rfl)
theorem LK_m_144 : LK "QuantisedListsModel" 144 ⟨"QuantisedListsModel", "parts", "()I"⟩ := Or.inl (tb 820 (by decide +kernel) rfl)
theorem LK_m_148 : LK "QuantisedListsModel" 148 ⟨"QuantisedListsModel", "learn", "(II)V"⟩ := Or.inl (tb 824 (by decide +kernel) rfl)
theorem LK_m_151 : LK "QuantisedListsModel" 151 ⟨"QuantisedListsModel", "spread", "(I)V"⟩ := Or.inl (tb 828 (by decide +kernel) rfl)
theorem LK_m_155 : LK "QuantisedListsModel" 155 ⟨"QuantisedListsModel", "loss", "()I"⟩ := Or.inl (tb 832 (by decide +kernel) rfl)
theorem LK_m_158 : LK "QuantisedListsModel" 158 ⟨"QuantisedListsModel", "nearestWord", "(I)I"⟩ := Or.inl (tb 836 (by decide +kernel) rfl)
theorem LK_m_161 : LK "QuantisedListsModel" 161 ⟨"QuantisedListsModel", "wordGap", "(II)I"⟩ := Or.inl (tb 840 (by decide +kernel) rfl)
theorem LK_m_164 : LK "QuantisedListsModel" 164 ⟨"QuantisedListsModel", "size", "()I"⟩ := Or.inl (tb 844 (by decide +kernel) rfl)
theorem LK_l_31 : LK "QuantisedListsLaw" 31 ⟨"QuantisedListsModel", "centre", "(II)I"⟩ := Or.inl (tb 848 (by decide +kernel) rfl)
theorem LK_l_36 : LK "QuantisedListsLaw" 36 ⟨"QuantisedListsModel", "word", "(III)I"⟩ := Or.inl (tb 852 (by decide +kernel) rfl)
theorem LK_l_41 : LK "QuantisedListsLaw" 41 ⟨"QuantisedListsModel", "add", "(IIIII)I"⟩ := Or.inl (tb 856 (by decide +kernel) rfl)
theorem LK_m_170 : LK "QuantisedListsModel" 170 ⟨"QuantisedListsModel", "listNow", "()I"⟩ := Or.inl (tb 860 (by decide +kernel) rfl)
theorem LK_m_167 : LK "QuantisedListsModel" 167 ⟨"QuantisedListsModel", "away", "(I)I"⟩ := Or.inl (tb 864 (by decide +kernel) rfl)
theorem LK_l_46 : LK "QuantisedListsLaw" 46 ⟨"QuantisedListsModel", "remove", "(I)Z"⟩ := Or.inl (tb 868 (by decide +kernel) rfl)
theorem LK_m_173 : LK "QuantisedListsModel" 173 ⟨"QuantisedListsModel", "there", "(I)Z"⟩ := Or.inl (tb 872 (by decide +kernel) rfl)
theorem LK_l_51 : LK "QuantisedListsLaw" 51 ⟨"QuantisedListsModel", "listOf", "(I)I"⟩ := Or.inl (tb 876 (by decide +kernel) rfl)
theorem LK_m_176 : LK "QuantisedListsModel" 176 ⟨"QuantisedListsModel", "turnEntry", "(I)V"⟩ := Or.inl (tb 880 (by decide +kernel) rfl)
theorem LK_l_55 : LK "QuantisedListsLaw" 55 ⟨"QuantisedListsModel", "codeOf", "(I)I"⟩ := Or.inl (tb 884 (by decide +kernel) rfl)
theorem LK_m_179 : LK "QuantisedListsModel" 179 ⟨"QuantisedListsModel", "leave", "(I)V"⟩ := Or.inl (tb 888 (by decide +kernel) rfl)
theorem LK_l_59 : LK "QuantisedListsLaw" 59 ⟨"QuantisedListsModel", "entries", "(I)I"⟩ := Or.inl (tb 892 (by decide +kernel) rfl)
theorem LK_l_64 : LK "QuantisedListsLaw" 64 ⟨"QuantisedListsModel", "effort", "(II)Z"⟩ := Or.inl (tb 896 (by decide +kernel) rfl)
theorem LK_l_68 : LK "QuantisedListsLaw" 68 ⟨"QuantisedListsModel", "search", "(IIIII)I"⟩ := Or.inl (tb 900 (by decide +kernel) rfl)
theorem LK_m_188 : LK "QuantisedListsModel" 188 ⟨"QuantisedListsModel", "measure", "(I)V"⟩ := Or.inl (tb 904 (by decide +kernel) rfl)
theorem LK_m_200 : LK "QuantisedListsModel" 200 ⟨"QuantisedListsModel", "probed", "(I)Z"⟩ := Or.inl (tb 908 (by decide +kernel) rfl)
theorem LK_m_194 : LK "QuantisedListsModel" 194 ⟨"QuantisedListsModel", "rank", "(I)I"⟩ := Or.inl (tb 912 (by decide +kernel) rfl)
theorem LK_m_197 : LK "QuantisedListsModel" 197 ⟨"QuantisedListsModel", "exactRank", "(I)I"⟩ := Or.inl (tb 916 (by decide +kernel) rfl)
theorem LK_l_72 : LK "QuantisedListsLaw" 72 ⟨"QuantisedListsModel", "hit", "(I)I"⟩ := Or.inl (tb 920 (by decide +kernel) rfl)
theorem LK_l_76 : LK "QuantisedListsLaw" 76 ⟨"QuantisedListsModel", "far", "(I)I"⟩ := Or.inl (tb 924 (by decide +kernel) rfl)
theorem LK_l_81 : LK "QuantisedListsLaw" 81 ⟨"QuantisedListsModel", "scanned", "()I"⟩ := Or.inl (tb 928 (by decide +kernel) rfl)
theorem LK_l_85 : LK "QuantisedListsLaw" 85 ⟨"QuantisedListsModel", "save", "()I"⟩ := Or.inl (tb 932 (by decide +kernel) rfl)
theorem LK_m_206 : LK "QuantisedListsModel" 206 ⟨"QuantisedListsModel", "put", "(I)V"⟩ := Or.inl (tb 936 (by decide +kernel) rfl)
theorem LK_m_209 : LK "QuantisedListsModel" 209 ⟨"QuantisedListsModel", "putTwo", "(I)V"⟩ := Or.inl (tb 940 (by decide +kernel) rfl)
theorem LK_m_212 : LK "QuantisedListsModel" 212 ⟨"QuantisedListsModel", "sum", "(I)I"⟩ := Or.inl (tb 944 (by decide +kernel) rfl)
theorem LK_l_89 : LK "QuantisedListsLaw" 89 ⟨"QuantisedListsModel", "alter", "(II)Z"⟩ := Or.inl (tb 948 (by decide +kernel) rfl)
theorem LK_l_93 : LK "QuantisedListsLaw" 93 ⟨"QuantisedListsModel", "cut", "(I)Z"⟩ := Or.inl (tb 952 (by decide +kernel) rfl)
theorem LK_l_97 : LK "QuantisedListsLaw" 97 ⟨"QuantisedListsModel", "byteAt", "(I)I"⟩ := Or.inl (tb 956 (by decide +kernel) rfl)
theorem LK_l_101 : LK "QuantisedListsLaw" 101 ⟨"QuantisedListsModel", "load", "()I"⟩ := Or.inl (tb 960 (by decide +kernel) rfl)
theorem LK_m_221 : LK "QuantisedListsModel" 221 ⟨"QuantisedListsModel", "fault", "()I"⟩ := Or.inl (tb 964 (by decide +kernel) rfl)
theorem LK_m_215 : LK "QuantisedListsModel" 215 ⟨"QuantisedListsModel", "head", "()I"⟩ := Or.inl (tb 968 (by decide +kernel) rfl)
theorem LK_m_218 : LK "QuantisedListsModel" 218 ⟨"QuantisedListsModel", "two", "(I)I"⟩ := Or.inl (tb 972 (by decide +kernel) rfl)
theorem FW_2_1 : FW 2 1 .int := fun C T N h => by cases h; exact ⟨rfl, by decide +kernel⟩
theorem FW_3_5 : FW 3 5 .int := fun C T N h => by cases h; exact ⟨rfl, by decide +kernel⟩
theorem FW_3_6 : FW 3 6 .int := fun C T N h => by cases h; exact ⟨rfl, by decide +kernel⟩
theorem FW_3_7 : FW 3 7 .int := fun C T N h => by cases h; exact ⟨rfl, by decide +kernel⟩
theorem FW_3_8 : FW 3 8 .int := fun C T N h => by cases h; exact ⟨rfl, by decide +kernel⟩
theorem FW_4_3 : FW 4 3 .boolean := fun C T N h => by cases h; exact ⟨rfl, by decide +kernel⟩
theorem FW_4_4 : FW 4 4 .int := fun C T N h => by cases h; exact ⟨rfl, by decide +kernel⟩
theorem FW_4_5 : FW 4 5 .int := fun C T N h => by cases h; exact ⟨rfl, by decide +kernel⟩
theorem FW_4_6 : FW 4 6 .int := fun C T N h => by cases h; exact ⟨rfl, by decide +kernel⟩
theorem FW_5_1 : FW 5 1 .int := fun C T N h => by cases h; exact ⟨rfl, by decide +kernel⟩
theorem FW_6_5 : FW 6 5 .int := fun C T N h => by cases h; exact ⟨rfl, by decide +kernel⟩
theorem FW_6_6 : FW 6 6 .int := fun C T N h => by cases h; exact ⟨rfl, by decide +kernel⟩
theorem FW_6_7 : FW 6 7 .int := fun C T N h => by cases h; exact ⟨rfl, by decide +kernel⟩
theorem FW_6_8 : FW 6 8 .int := fun C T N h => by cases h; exact ⟨rfl, by decide +kernel⟩
theorem FW_7_1 : FW 7 1 .int := fun C T N h => by cases h; exact ⟨rfl, by decide +kernel⟩
theorem FW_8_2 : FW 8 2 .int := fun C T N h => by cases h; exact ⟨rfl, by decide +kernel⟩
theorem FW_8_3 : FW 8 3 .boolean := fun C T N h => by cases h; exact ⟨rfl, by decide +kernel⟩
theorem FW_8_4 : FW 8 4 .int := fun C T N h => by cases h; exact ⟨rfl, by decide +kernel⟩
theorem FW_8_5 : FW 8 5 .int := fun C T N h => by cases h; exact ⟨rfl, by decide +kernel⟩
theorem FW_8_6 : FW 8 6 .int := fun C T N h => by cases h; exact ⟨rfl, by decide +kernel⟩
theorem FW_8_11 : FW 8 11 .int := fun C T N h => by cases h; exact ⟨rfl, by decide +kernel⟩
theorem FW_8_12 : FW 8 12 .int := fun C T N h => by cases h; exact ⟨rfl, by decide +kernel⟩
theorem FW_8_13 : FW 8 13 .int := fun C T N h => by cases h; exact ⟨rfl, by decide +kernel⟩
theorem FW_8_16 : FW 8 16 .int := fun C T N h => by cases h; exact ⟨rfl, by decide +kernel⟩
theorem FW_8_17 : FW 8 17 .int := fun C T N h => by cases h; exact ⟨rfl, by decide +kernel⟩
theorem FW_8_19 : FW 8 19 .int := fun C T N h => by cases h; exact ⟨rfl, by decide +kernel⟩
theorem FW_9_3 : FW 9 3 .int := fun C T N h => by cases h; exact ⟨rfl, by decide +kernel⟩
theorem FW_9_4 : FW 9 4 .int := fun C T N h => by cases h; exact ⟨rfl, by decide +kernel⟩
end
section
theorem d_q_turn_0 : decode M_q_turn.2.1 0 = .ok (.iload_n 1, 1) := by decide +kernel
theorem d_q_turn_1 : decode M_q_turn.2.1 1 = .ok (.iload_n 2, 1) := by decide +kernel
theorem d_q_turn_2 : decode M_q_turn.2.1 2 = .ok (.iload_n 3, 1) := by decide +kernel
theorem d_q_turn_3 : decode M_q_turn.2.1 3 = .ok (.iload 4, 2) := by decide +kernel
theorem d_q_turn_5 : decode M_q_turn.2.1 5 = .ok (.invokestatic 58, 3) := by decide +kernel
theorem d_q_turn_8 : decode M_q_turn.2.1 8 = .ok (.ifCond .eq 13, 3) := by decide +kernel
theorem d_q_turn_11 : decode M_q_turn.2.1 11 = .ok (.aload_n 0, 1) := by decide +kernel
theorem d_q_turn_12 : decode M_q_turn.2.1 12 = .ok (.getfield 33, 3) := by decide +kernel
theorem d_q_turn_15 : decode M_q_turn.2.1 15 = .ok (.getfield 62, 3) := by decide +kernel
theorem d_q_turn_18 : decode M_q_turn.2.1 18 = .ok (.ifCond .eq 5, 3) := by decide +kernel
theorem d_q_turn_21 : decode M_q_turn.2.1 21 = .ok (.iconst 0, 1) := by decide +kernel
theorem d_q_turn_22 : decode M_q_turn.2.1 22 = .ok (.ireturn, 1) := by decide +kernel
theorem d_q_turn_23 : decode M_q_turn.2.1 23 = .ok (.aload_n 0, 1) := by decide +kernel
theorem d_q_turn_24 : decode M_q_turn.2.1 24 = .ok (.getfield 10, 3) := by decide +kernel
theorem d_q_turn_27 : decode M_q_turn.2.1 27 = .ok (.iload_n 1, 1) := by decide +kernel
theorem d_q_turn_28 : decode M_q_turn.2.1 28 = .ok (.iload_n 2, 1) := by decide +kernel
theorem d_q_turn_29 : decode M_q_turn.2.1 29 = .ok (.iload_n 3, 1) := by decide +kernel
theorem d_q_turn_30 : decode M_q_turn.2.1 30 = .ok (.iload 4, 2) := by decide +kernel
theorem d_q_turn_32 : decode M_q_turn.2.1 32 = .ok (.invokevirtual 66, 3) := by decide +kernel
theorem d_q_turn_35 : decode M_q_turn.2.1 35 = .ok (.iconst 1, 1) := by decide +kernel
theorem d_q_turn_36 : decode M_q_turn.2.1 36 = .ok (.ireturn, 1) := by decide +kernel
theorem d_t_allows_0 : decode M_t_allows.2.1 0 = .ok (.iload_n 0, 1) := by decide +kernel
theorem d_t_allows_1 : decode M_t_allows.2.1 1 = .ok (.invokestatic 15, 3) := by decide +kernel
theorem d_t_allows_4 : decode M_t_allows.2.1 4 = .ok (.ifCond .eq 24, 3) := by decide +kernel
theorem d_t_allows_7 : decode M_t_allows.2.1 7 = .ok (.iload_n 1, 1) := by decide +kernel
theorem d_t_allows_8 : decode M_t_allows.2.1 8 = .ok (.invokestatic 15, 3) := by decide +kernel
theorem d_t_allows_11 : decode M_t_allows.2.1 11 = .ok (.ifCond .eq 17, 3) := by decide +kernel
theorem d_t_allows_14 : decode M_t_allows.2.1 14 = .ok (.iload_n 2, 1) := by decide +kernel
theorem d_t_allows_15 : decode M_t_allows.2.1 15 = .ok (.invokestatic 15, 3) := by decide +kernel
theorem d_t_allows_18 : decode M_t_allows.2.1 18 = .ok (.ifCond .eq 10, 3) := by decide +kernel
theorem d_t_allows_21 : decode M_t_allows.2.1 21 = .ok (.iload_n 3, 1) := by decide +kernel
theorem d_t_allows_22 : decode M_t_allows.2.1 22 = .ok (.invokestatic 15, 3) := by decide +kernel
theorem d_t_allows_25 : decode M_t_allows.2.1 25 = .ok (.ifCond .ne 5, 3) := by decide +kernel
theorem d_t_allows_28 : decode M_t_allows.2.1 28 = .ok (.iconst 0, 1) := by decide +kernel
theorem d_t_allows_29 : decode M_t_allows.2.1 29 = .ok (.ireturn, 1) := by decide +kernel
theorem d_t_allows_30 : decode M_t_allows.2.1 30 = .ok (.iload_n 0, 1) := by decide +kernel
theorem d_t_allows_31 : decode M_t_allows.2.1 31 = .ok (.invokestatic 19, 3) := by decide +kernel
theorem d_t_allows_34 : decode M_t_allows.2.1 34 = .ok (.iload_n 1, 1) := by decide +kernel
theorem d_t_allows_35 : decode M_t_allows.2.1 35 = .ok (.invokestatic 19, 3) := by decide +kernel
theorem d_t_allows_38 : decode M_t_allows.2.1 38 = .ok (.ior, 1) := by decide +kernel
theorem d_t_allows_39 : decode M_t_allows.2.1 39 = .ok (.iload_n 2, 1) := by decide +kernel
theorem d_t_allows_40 : decode M_t_allows.2.1 40 = .ok (.invokestatic 19, 3) := by decide +kernel
theorem d_t_allows_43 : decode M_t_allows.2.1 43 = .ok (.ior, 1) := by decide +kernel
theorem d_t_allows_44 : decode M_t_allows.2.1 44 = .ok (.iload_n 3, 1) := by decide +kernel
theorem d_t_allows_45 : decode M_t_allows.2.1 45 = .ok (.invokestatic 19, 3) := by decide +kernel
theorem d_t_allows_48 : decode M_t_allows.2.1 48 = .ok (.ior, 1) := by decide +kernel
theorem d_t_allows_49 : decode M_t_allows.2.1 49 = .ok (.bipush 30, 2) := by decide +kernel
theorem d_t_allows_51 : decode M_t_allows.2.1 51 = .ok (.if_icmp .ne 7, 3) := by decide +kernel
theorem d_t_allows_54 : decode M_t_allows.2.1 54 = .ok (.iconst 1, 1) := by decide +kernel
theorem d_t_allows_55 : decode M_t_allows.2.1 55 = .ok (.goto 4, 3) := by decide +kernel
theorem d_t_allows_58 : decode M_t_allows.2.1 58 = .ok (.iconst 0, 1) := by decide +kernel
theorem d_t_allows_59 : decode M_t_allows.2.1 59 = .ok (.ireturn, 1) := by decide +kernel
theorem d_t_isStep_0 : decode M_t_isStep.2.1 0 = .ok (.iload_n 0, 1) := by decide +kernel
theorem d_t_isStep_1 : decode M_t_isStep.2.1 1 = .ok (.ifCond .eq 17, 3) := by decide +kernel
theorem d_t_isStep_4 : decode M_t_isStep.2.1 4 = .ok (.iload_n 0, 1) := by decide +kernel
theorem d_t_isStep_5 : decode M_t_isStep.2.1 5 = .ok (.bipush (-4), 2) := by decide +kernel
theorem d_t_isStep_7 : decode M_t_isStep.2.1 7 = .ok (.iconst 4, 1) := by decide +kernel
theorem d_t_isStep_8 : decode M_t_isStep.2.1 8 = .ok (.invokestatic 23, 3) := by decide +kernel
theorem d_t_isStep_11 : decode M_t_isStep.2.1 11 = .ok (.ifCond .eq 7, 3) := by decide +kernel
theorem d_t_isStep_14 : decode M_t_isStep.2.1 14 = .ok (.iconst 1, 1) := by decide +kernel
theorem d_t_isStep_15 : decode M_t_isStep.2.1 15 = .ok (.goto 4, 3) := by decide +kernel
theorem d_t_isStep_18 : decode M_t_isStep.2.1 18 = .ok (.iconst 0, 1) := by decide +kernel
theorem d_t_isStep_19 : decode M_t_isStep.2.1 19 = .ok (.ireturn, 1) := by decide +kernel
theorem d_q_isWithin_0 : decode M_q_isWithin.2.1 0 = .ok (.iload_n 0, 1) := by decide +kernel
theorem d_q_isWithin_1 : decode M_q_isWithin.2.1 1 = .ok (.iload_n 1, 1) := by decide +kernel
theorem d_q_isWithin_2 : decode M_q_isWithin.2.1 2 = .ok (.if_icmp .lt 12, 3) := by decide +kernel
theorem d_q_isWithin_5 : decode M_q_isWithin.2.1 5 = .ok (.iload_n 0, 1) := by decide +kernel
theorem d_q_isWithin_6 : decode M_q_isWithin.2.1 6 = .ok (.iload_n 2, 1) := by decide +kernel
theorem d_q_isWithin_7 : decode M_q_isWithin.2.1 7 = .ok (.if_icmp .gt 7, 3) := by decide +kernel
theorem d_q_isWithin_10 : decode M_q_isWithin.2.1 10 = .ok (.iconst 1, 1) := by decide +kernel
theorem d_q_isWithin_11 : decode M_q_isWithin.2.1 11 = .ok (.goto 4, 3) := by decide +kernel
theorem d_q_isWithin_14 : decode M_q_isWithin.2.1 14 = .ok (.iconst 0, 1) := by decide +kernel
theorem d_q_isWithin_15 : decode M_q_isWithin.2.1 15 = .ok (.ireturn, 1) := by decide +kernel
theorem d_t_axisBit_0 : decode M_t_axisBit.2.1 0 = .ok (.iconst 1, 1) := by decide +kernel
theorem d_t_axisBit_1 : decode M_t_axisBit.2.1 1 = .ok (.iload_n 0, 1) := by decide +kernel
theorem d_t_axisBit_2 : decode M_t_axisBit.2.1 2 = .ok (.invokestatic 27, 3) := by decide +kernel
theorem d_t_axisBit_5 : decode M_t_axisBit.2.1 5 = .ok (.ishl, 1) := by decide +kernel
theorem d_t_axisBit_6 : decode M_t_axisBit.2.1 6 = .ok (.ireturn, 1) := by decide +kernel
theorem d_j_abs_0 : decode M_j_abs.2.1 0 = .ok (.iload_n 0, 1) := by decide +kernel
theorem d_j_abs_1 : decode M_j_abs.2.1 1 = .ok (.ifCond .ge 8, 3) := by decide +kernel
theorem d_j_abs_4 : decode M_j_abs.2.1 4 = .ok (.iload_n 0, 1) := by decide +kernel
theorem d_j_abs_5 : decode M_j_abs.2.1 5 = .ok (.ineg, 1) := by decide +kernel
theorem d_j_abs_6 : decode M_j_abs.2.1 6 = .ok (.goto 4, 3) := by decide +kernel
theorem d_j_abs_9 : decode M_j_abs.2.1 9 = .ok (.iload_n 0, 1) := by decide +kernel
theorem d_j_abs_10 : decode M_j_abs.2.1 10 = .ok (.ireturn, 1) := by decide +kernel
theorem d_t_become_0 : decode M_t_become.2.1 0 = .ok (.aload_n 0, 1) := by decide +kernel
theorem d_t_become_1 : decode M_t_become.2.1 1 = .ok (.getfield 9, 3) := by decide +kernel
theorem d_t_become_4 : decode M_t_become.2.1 4 = .ok (.iload_n 1, 1) := by decide +kernel
theorem d_t_become_5 : decode M_t_become.2.1 5 = .ok (.iload_n 2, 1) := by decide +kernel
theorem d_t_become_6 : decode M_t_become.2.1 6 = .ok (.iload_n 3, 1) := by decide +kernel
theorem d_t_become_7 : decode M_t_become.2.1 7 = .ok (.iload 4, 2) := by decide +kernel
theorem d_t_become_9 : decode M_t_become.2.1 9 = .ok (.invokestatic 32, 3) := by decide +kernel
theorem d_t_become_12 : decode M_t_become.2.1 12 = .ok (.return_, 1) := by decide +kernel
theorem d_q_setPoint_0 : decode M_q_setPoint.2.1 0 = .ok (.aload_n 0, 1) := by decide +kernel
theorem d_q_setPoint_1 : decode M_q_setPoint.2.1 1 = .ok (.iconst 0, 1) := by decide +kernel
theorem d_q_setPoint_2 : decode M_q_setPoint.2.1 2 = .ok (.iload_n 1, 1) := by decide +kernel
theorem d_q_setPoint_3 : decode M_q_setPoint.2.1 3 = .ok (.iastore, 1) := by decide +kernel
theorem d_q_setPoint_4 : decode M_q_setPoint.2.1 4 = .ok (.aload_n 0, 1) := by decide +kernel
theorem d_q_setPoint_5 : decode M_q_setPoint.2.1 5 = .ok (.iconst 1, 1) := by decide +kernel
theorem d_q_setPoint_6 : decode M_q_setPoint.2.1 6 = .ok (.iload_n 2, 1) := by decide +kernel
theorem d_q_setPoint_7 : decode M_q_setPoint.2.1 7 = .ok (.iastore, 1) := by decide +kernel
theorem d_q_setPoint_8 : decode M_q_setPoint.2.1 8 = .ok (.aload_n 0, 1) := by decide +kernel
theorem d_q_setPoint_9 : decode M_q_setPoint.2.1 9 = .ok (.iconst 2, 1) := by decide +kernel
theorem d_q_setPoint_10 : decode M_q_setPoint.2.1 10 = .ok (.iload_n 3, 1) := by decide +kernel
theorem d_q_setPoint_11 : decode M_q_setPoint.2.1 11 = .ok (.iastore, 1) := by decide +kernel
theorem d_q_setPoint_12 : decode M_q_setPoint.2.1 12 = .ok (.aload_n 0, 1) := by decide +kernel
theorem d_q_setPoint_13 : decode M_q_setPoint.2.1 13 = .ok (.iconst 3, 1) := by decide +kernel
theorem d_q_setPoint_14 : decode M_q_setPoint.2.1 14 = .ok (.iload 4, 2) := by decide +kernel
theorem d_q_setPoint_16 : decode M_q_setPoint.2.1 16 = .ok (.iastore, 1) := by decide +kernel
theorem d_q_setPoint_17 : decode M_q_setPoint.2.1 17 = .ok (.return_, 1) := by decide +kernel
theorem d_q_sample_0 : decode M_q_sample.2.1 0 = .ok (.iload_n 1, 1) := by decide +kernel
theorem d_q_sample_1 : decode M_q_sample.2.1 1 = .ok (.iload_n 2, 1) := by decide +kernel
theorem d_q_sample_2 : decode M_q_sample.2.1 2 = .ok (.iload_n 3, 1) := by decide +kernel
theorem d_q_sample_3 : decode M_q_sample.2.1 3 = .ok (.iload 4, 2) := by decide +kernel
theorem d_q_sample_5 : decode M_q_sample.2.1 5 = .ok (.invokestatic 70, 3) := by decide +kernel
theorem d_q_sample_8 : decode M_q_sample.2.1 8 = .ok (.ifCond .ne 15, 3) := by decide +kernel
theorem d_q_sample_11 : decode M_q_sample.2.1 11 = .ok (.aload_n 0, 1) := by decide +kernel
theorem d_q_sample_12 : decode M_q_sample.2.1 12 = .ok (.getfield 19, 3) := by decide +kernel
theorem d_q_sample_15 : decode M_q_sample.2.1 15 = .ok (.getfield 73, 3) := by decide +kernel
theorem d_q_sample_18 : decode M_q_sample.2.1 18 = .ok (.bipush 24, 2) := by decide +kernel
theorem d_q_sample_20 : decode M_q_sample.2.1 20 = .ok (.if_icmp .lt 5, 3) := by decide +kernel
theorem d_q_sample_23 : decode M_q_sample.2.1 23 = .ok (.iconst 0, 1) := by decide +kernel
theorem d_q_sample_24 : decode M_q_sample.2.1 24 = .ok (.ireturn, 1) := by decide +kernel
theorem d_q_sample_25 : decode M_q_sample.2.1 25 = .ok (.aload_n 0, 1) := by decide +kernel
theorem d_q_sample_26 : decode M_q_sample.2.1 26 = .ok (.getfield 19, 3) := by decide +kernel
theorem d_q_sample_29 : decode M_q_sample.2.1 29 = .ok (.getfield 77, 3) := by decide +kernel
theorem d_q_sample_32 : decode M_q_sample.2.1 32 = .ok (.aload_n 0, 1) := by decide +kernel
theorem d_q_sample_33 : decode M_q_sample.2.1 33 = .ok (.getfield 19, 3) := by decide +kernel
theorem d_q_sample_36 : decode M_q_sample.2.1 36 = .ok (.getfield 73, 3) := by decide +kernel
theorem d_q_sample_39 : decode M_q_sample.2.1 39 = .ok (.aaload, 1) := by decide +kernel
theorem d_q_sample_40 : decode M_q_sample.2.1 40 = .ok (.iload_n 1, 1) := by decide +kernel
theorem d_q_sample_41 : decode M_q_sample.2.1 41 = .ok (.iload_n 2, 1) := by decide +kernel
theorem d_q_sample_42 : decode M_q_sample.2.1 42 = .ok (.iload_n 3, 1) := by decide +kernel
theorem d_q_sample_43 : decode M_q_sample.2.1 43 = .ok (.iload 4, 2) := by decide +kernel
theorem d_q_sample_45 : decode M_q_sample.2.1 45 = .ok (.invokestatic 81, 3) := by decide +kernel
theorem d_q_sample_48 : decode M_q_sample.2.1 48 = .ok (.aload_n 0, 1) := by decide +kernel
theorem d_q_sample_49 : decode M_q_sample.2.1 49 = .ok (.getfield 19, 3) := by decide +kernel
theorem d_q_sample_52 : decode M_q_sample.2.1 52 = .ok (.dup, 1) := by decide +kernel
theorem d_q_sample_53 : decode M_q_sample.2.1 53 = .ok (.getfield 73, 3) := by decide +kernel
theorem d_q_sample_56 : decode M_q_sample.2.1 56 = .ok (.iconst 1, 1) := by decide +kernel
theorem d_q_sample_57 : decode M_q_sample.2.1 57 = .ok (.iadd, 1) := by decide +kernel
theorem d_q_sample_58 : decode M_q_sample.2.1 58 = .ok (.putfield 73, 3) := by decide +kernel
theorem d_q_sample_61 : decode M_q_sample.2.1 61 = .ok (.iconst 1, 1) := by decide +kernel
theorem d_q_sample_62 : decode M_q_sample.2.1 62 = .ok (.ireturn, 1) := by decide +kernel
theorem d_q_isBad_0 : decode M_q_isBad.2.1 0 = .ok (.iload_n 0, 1) := by decide +kernel
theorem d_q_isBad_1 : decode M_q_isBad.2.1 1 = .ok (.bipush (-100), 2) := by decide +kernel
theorem d_q_isBad_3 : decode M_q_isBad.2.1 3 = .ok (.bipush 100, 2) := by decide +kernel
theorem d_q_isBad_5 : decode M_q_isBad.2.1 5 = .ok (.invokestatic 86, 3) := by decide +kernel
theorem d_q_isBad_8 : decode M_q_isBad.2.1 8 = .ok (.ifCond .eq 36, 3) := by decide +kernel
theorem d_q_isBad_11 : decode M_q_isBad.2.1 11 = .ok (.iload_n 1, 1) := by decide +kernel
theorem d_q_isBad_12 : decode M_q_isBad.2.1 12 = .ok (.bipush (-100), 2) := by decide +kernel
theorem d_q_isBad_14 : decode M_q_isBad.2.1 14 = .ok (.bipush 100, 2) := by decide +kernel
theorem d_q_isBad_16 : decode M_q_isBad.2.1 16 = .ok (.invokestatic 86, 3) := by decide +kernel
theorem d_q_isBad_19 : decode M_q_isBad.2.1 19 = .ok (.ifCond .eq 25, 3) := by decide +kernel
theorem d_q_isBad_22 : decode M_q_isBad.2.1 22 = .ok (.iload_n 2, 1) := by decide +kernel
theorem d_q_isBad_23 : decode M_q_isBad.2.1 23 = .ok (.bipush (-100), 2) := by decide +kernel
theorem d_q_isBad_25 : decode M_q_isBad.2.1 25 = .ok (.bipush 100, 2) := by decide +kernel
theorem d_q_isBad_27 : decode M_q_isBad.2.1 27 = .ok (.invokestatic 86, 3) := by decide +kernel
theorem d_q_isBad_30 : decode M_q_isBad.2.1 30 = .ok (.ifCond .eq 14, 3) := by decide +kernel
theorem d_q_isBad_33 : decode M_q_isBad.2.1 33 = .ok (.iload_n 3, 1) := by decide +kernel
theorem d_q_isBad_34 : decode M_q_isBad.2.1 34 = .ok (.bipush (-100), 2) := by decide +kernel
theorem d_q_isBad_36 : decode M_q_isBad.2.1 36 = .ok (.bipush 100, 2) := by decide +kernel
theorem d_q_isBad_38 : decode M_q_isBad.2.1 38 = .ok (.invokestatic 86, 3) := by decide +kernel
theorem d_q_isBad_41 : decode M_q_isBad.2.1 41 = .ok (.ifCond .ne 7, 3) := by decide +kernel
theorem d_q_isBad_44 : decode M_q_isBad.2.1 44 = .ok (.iconst 1, 1) := by decide +kernel
theorem d_q_isBad_45 : decode M_q_isBad.2.1 45 = .ok (.goto 4, 3) := by decide +kernel
theorem d_q_isBad_48 : decode M_q_isBad.2.1 48 = .ok (.iconst 0, 1) := by decide +kernel
theorem d_q_isBad_49 : decode M_q_isBad.2.1 49 = .ok (.ireturn, 1) := by decide +kernel
theorem d_q_train_0 : decode M_q_train.2.1 0 = .ok (.aload_n 0, 1) := by decide +kernel
theorem d_q_train_1 : decode M_q_train.2.1 1 = .ok (.getfield 19, 3) := by decide +kernel
theorem d_q_train_4 : decode M_q_train.2.1 4 = .ok (.getfield 73, 3) := by decide +kernel
theorem d_q_train_7 : decode M_q_train.2.1 7 = .ok (.ifCond .ne 5, 3) := by decide +kernel
theorem d_q_train_10 : decode M_q_train.2.1 10 = .ok (.iconst (-1), 1) := by decide +kernel
theorem d_q_train_11 : decode M_q_train.2.1 11 = .ok (.ireturn, 1) := by decide +kernel
theorem d_q_train_12 : decode M_q_train.2.1 12 = .ok (.aload_n 0, 1) := by decide +kernel
theorem d_q_train_13 : decode M_q_train.2.1 13 = .ok (.getfield 40, 3) := by decide +kernel
theorem d_q_train_16 : decode M_q_train.2.1 16 = .ok (.getfield 85, 3) := by decide +kernel
theorem d_q_train_19 : decode M_q_train.2.1 19 = .ok (.ifCond .le 6, 3) := by decide +kernel
theorem d_q_train_22 : decode M_q_train.2.1 22 = .ok (.bipush (-2), 2) := by decide +kernel
theorem d_q_train_24 : decode M_q_train.2.1 24 = .ok (.ireturn, 1) := by decide +kernel
theorem d_q_train_25 : decode M_q_train.2.1 25 = .ok (.iload_n 1, 1) := by decide +kernel
theorem d_q_train_26 : decode M_q_train.2.1 26 = .ok (.iconst 1, 1) := by decide +kernel
theorem d_q_train_27 : decode M_q_train.2.1 27 = .ok (.iconst 4, 1) := by decide +kernel
theorem d_q_train_28 : decode M_q_train.2.1 28 = .ok (.invokestatic 86, 3) := by decide +kernel
theorem d_q_train_31 : decode M_q_train.2.1 31 = .ok (.ifCond .eq 32, 3) := by decide +kernel
theorem d_q_train_34 : decode M_q_train.2.1 34 = .ok (.iload_n 2, 1) := by decide +kernel
theorem d_q_train_35 : decode M_q_train.2.1 35 = .ok (.iconst 0, 1) := by decide +kernel
theorem d_q_train_36 : decode M_q_train.2.1 36 = .ok (.iconst 2, 1) := by decide +kernel
theorem d_q_train_37 : decode M_q_train.2.1 37 = .ok (.invokestatic 86, 3) := by decide +kernel
theorem d_q_train_40 : decode M_q_train.2.1 40 = .ok (.ifCond .eq 23, 3) := by decide +kernel
theorem d_q_train_43 : decode M_q_train.2.1 43 = .ok (.iload_n 3, 1) := by decide +kernel
theorem d_q_train_44 : decode M_q_train.2.1 44 = .ok (.iconst 1, 1) := by decide +kernel
theorem d_q_train_45 : decode M_q_train.2.1 45 = .ok (.iconst 4, 1) := by decide +kernel
theorem d_q_train_46 : decode M_q_train.2.1 46 = .ok (.invokestatic 86, 3) := by decide +kernel
theorem d_q_train_49 : decode M_q_train.2.1 49 = .ok (.ifCond .eq 14, 3) := by decide +kernel
theorem d_q_train_52 : decode M_q_train.2.1 52 = .ok (.iload 4, 2) := by decide +kernel
theorem d_q_train_54 : decode M_q_train.2.1 54 = .ok (.iconst 0, 1) := by decide +kernel
theorem d_q_train_55 : decode M_q_train.2.1 55 = .ok (.bipush 8, 2) := by decide +kernel
theorem d_q_train_57 : decode M_q_train.2.1 57 = .ok (.invokestatic 86, 3) := by decide +kernel
theorem d_q_train_60 : decode M_q_train.2.1 60 = .ok (.ifCond .ne 6, 3) := by decide +kernel
theorem d_q_train_63 : decode M_q_train.2.1 63 = .ok (.bipush (-3), 2) := by decide +kernel
theorem d_q_train_65 : decode M_q_train.2.1 65 = .ok (.ireturn, 1) := by decide +kernel
theorem d_q_train_66 : decode M_q_train.2.1 66 = .ok (.aload_n 0, 1) := by decide +kernel
theorem d_q_train_67 : decode M_q_train.2.1 67 = .ok (.getfield 33, 3) := by decide +kernel
theorem d_q_train_70 : decode M_q_train.2.1 70 = .ok (.iload_n 2, 1) := by decide +kernel
theorem d_q_train_71 : decode M_q_train.2.1 71 = .ok (.iload_n 1, 1) := by decide +kernel
theorem d_q_train_72 : decode M_q_train.2.1 72 = .ok (.iload_n 3, 1) := by decide +kernel
theorem d_q_train_73 : decode M_q_train.2.1 73 = .ok (.invokevirtual 90, 3) := by decide +kernel
theorem d_q_train_76 : decode M_q_train.2.1 76 = .ok (.aload_n 0, 1) := by decide +kernel
theorem d_q_train_77 : decode M_q_train.2.1 77 = .ok (.iload 4, 2) := by decide +kernel
theorem d_q_train_79 : decode M_q_train.2.1 79 = .ok (.invokevirtual 93, 3) := by decide +kernel
theorem d_q_train_82 : decode M_q_train.2.1 82 = .ok (.aload_n 0, 1) := by decide +kernel
theorem d_q_train_83 : decode M_q_train.2.1 83 = .ok (.invokevirtual 97, 3) := by decide +kernel
theorem d_q_train_86 : decode M_q_train.2.1 86 = .ok (.aload_n 0, 1) := by decide +kernel
theorem d_q_train_87 : decode M_q_train.2.1 87 = .ok (.iload 4, 2) := by decide +kernel
theorem d_q_train_89 : decode M_q_train.2.1 89 = .ok (.invokevirtual 100, 3) := by decide +kernel
theorem d_q_train_92 : decode M_q_train.2.1 92 = .ok (.aload_n 0, 1) := by decide +kernel
theorem d_q_train_93 : decode M_q_train.2.1 93 = .ok (.invokevirtual 103, 3) := by decide +kernel
theorem d_q_train_96 : decode M_q_train.2.1 96 = .ok (.ireturn, 1) := by decide +kernel
theorem d_z_become_0 : decode M_z_become.2.1 0 = .ok (.aload_n 0, 1) := by decide +kernel
theorem d_z_become_1 : decode M_z_become.2.1 1 = .ok (.iconst 1, 1) := by decide +kernel
theorem d_z_become_2 : decode M_z_become.2.1 2 = .ok (.putfield 23, 3) := by decide +kernel
theorem d_z_become_5 : decode M_z_become.2.1 5 = .ok (.aload_n 0, 1) := by decide +kernel
theorem d_z_become_6 : decode M_z_become.2.1 6 = .ok (.iload_n 1, 1) := by decide +kernel
theorem d_z_become_7 : decode M_z_become.2.1 7 = .ok (.putfield 27, 3) := by decide +kernel
theorem d_z_become_10 : decode M_z_become.2.1 10 = .ok (.aload_n 0, 1) := by decide +kernel
theorem d_z_become_11 : decode M_z_become.2.1 11 = .ok (.iload_n 2, 1) := by decide +kernel
theorem d_z_become_12 : decode M_z_become.2.1 12 = .ok (.putfield 31, 3) := by decide +kernel
theorem d_z_become_15 : decode M_z_become.2.1 15 = .ok (.aload_n 0, 1) := by decide +kernel
theorem d_z_become_16 : decode M_z_become.2.1 16 = .ok (.iload_n 3, 1) := by decide +kernel
theorem d_z_become_17 : decode M_z_become.2.1 17 = .ok (.putfield 34, 3) := by decide +kernel
theorem d_z_become_20 : decode M_z_become.2.1 20 = .ok (.return_, 1) := by decide +kernel
theorem d_q_learnCentres_0 : decode M_q_learnCentres.2.1 0 = .ok (.aload_n 0, 1) := by decide +kernel
theorem d_q_learnCentres_1 : decode M_q_learnCentres.2.1 1 = .ok (.getfield 26, 3) := by decide +kernel
theorem d_q_learnCentres_4 : decode M_q_learnCentres.2.1 4 = .ok (.aload_n 0, 1) := by decide +kernel
theorem d_q_learnCentres_5 : decode M_q_learnCentres.2.1 5 = .ok (.getfield 19, 3) := by decide +kernel
theorem d_q_learnCentres_8 : decode M_q_learnCentres.2.1 8 = .ok (.getfield 73, 3) := by decide +kernel
theorem d_q_learnCentres_11 : decode M_q_learnCentres.2.1 11 = .ok (.putfield 233, 3) := by decide +kernel
theorem d_q_learnCentres_14 : decode M_q_learnCentres.2.1 14 = .ok (.iconst 0, 1) := by decide +kernel
theorem d_q_learnCentres_15 : decode M_q_learnCentres.2.1 15 = .ok (.istore_n 2, 1) := by decide +kernel
theorem d_q_learnCentres_16 : decode M_q_learnCentres.2.1 16 = .ok (.iload_n 2, 1) := by decide +kernel
theorem d_q_learnCentres_17 : decode M_q_learnCentres.2.1 17 = .ok (.aload_n 0, 1) := by decide +kernel
theorem d_q_learnCentres_18 : decode M_q_learnCentres.2.1 18 = .ok (.getfield 19, 3) := by decide +kernel
theorem d_q_learnCentres_21 : decode M_q_learnCentres.2.1 21 = .ok (.getfield 73, 3) := by decide +kernel
theorem d_q_learnCentres_24 : decode M_q_learnCentres.2.1 24 = .ok (.if_icmp .ge 34, 3) := by decide +kernel
theorem d_q_learnCentres_27 : decode M_q_learnCentres.2.1 27 = .ok (.aload_n 0, 1) := by decide +kernel
theorem d_q_learnCentres_28 : decode M_q_learnCentres.2.1 28 = .ok (.getfield 10, 3) := by decide +kernel
theorem d_q_learnCentres_31 : decode M_q_learnCentres.2.1 31 = .ok (.aload_n 0, 1) := by decide +kernel
theorem d_q_learnCentres_32 : decode M_q_learnCentres.2.1 32 = .ok (.getfield 19, 3) := by decide +kernel
theorem d_q_learnCentres_35 : decode M_q_learnCentres.2.1 35 = .ok (.getfield 77, 3) := by decide +kernel
theorem d_q_learnCentres_38 : decode M_q_learnCentres.2.1 38 = .ok (.iload_n 2, 1) := by decide +kernel
theorem d_q_learnCentres_39 : decode M_q_learnCentres.2.1 39 = .ok (.aaload, 1) := by decide +kernel
theorem d_q_learnCentres_40 : decode M_q_learnCentres.2.1 40 = .ok (.aload_n 0, 1) := by decide +kernel
theorem d_q_learnCentres_41 : decode M_q_learnCentres.2.1 41 = .ok (.getfield 26, 3) := by decide +kernel
theorem d_q_learnCentres_44 : decode M_q_learnCentres.2.1 44 = .ok (.getfield 236, 3) := by decide +kernel
theorem d_q_learnCentres_47 : decode M_q_learnCentres.2.1 47 = .ok (.iload_n 2, 1) := by decide +kernel
theorem d_q_learnCentres_48 : decode M_q_learnCentres.2.1 48 = .ok (.aaload, 1) := by decide +kernel
theorem d_q_learnCentres_49 : decode M_q_learnCentres.2.1 49 = .ok (.invokevirtual 171, 3) := by decide +kernel
theorem d_q_learnCentres_52 : decode M_q_learnCentres.2.1 52 = .ok (.iinc 2 1, 3) := by decide +kernel
theorem d_q_learnCentres_55 : decode M_q_learnCentres.2.1 55 = .ok (.goto (-39), 3) := by decide +kernel
theorem d_q_learnCentres_58 : decode M_q_learnCentres.2.1 58 = .ok (.aload_n 0, 1) := by decide +kernel
theorem d_q_learnCentres_59 : decode M_q_learnCentres.2.1 59 = .ok (.getfield 26, 3) := by decide +kernel
theorem d_q_learnCentres_62 : decode M_q_learnCentres.2.1 62 = .ok (.iconst 0, 1) := by decide +kernel
theorem d_q_learnCentres_63 : decode M_q_learnCentres.2.1 63 = .ok (.iconst 4, 1) := by decide +kernel
theorem d_q_learnCentres_64 : decode M_q_learnCentres.2.1 64 = .ok (.aload_n 0, 1) := by decide +kernel
theorem d_q_learnCentres_65 : decode M_q_learnCentres.2.1 65 = .ok (.getfield 33, 3) := by decide +kernel
theorem d_q_learnCentres_68 : decode M_q_learnCentres.2.1 68 = .ok (.getfield 239, 3) := by decide +kernel
theorem d_q_learnCentres_71 : decode M_q_learnCentres.2.1 71 = .ok (.iload_n 1, 1) := by decide +kernel
theorem d_q_learnCentres_72 : decode M_q_learnCentres.2.1 72 = .ok (.invokevirtual 242, 3) := by decide +kernel
theorem d_q_learnCentres_75 : decode M_q_learnCentres.2.1 75 = .ok (.aload_n 0, 1) := by decide +kernel
theorem d_q_learnCentres_76 : decode M_q_learnCentres.2.1 76 = .ok (.getfield 26, 3) := by decide +kernel
theorem d_q_learnCentres_79 : decode M_q_learnCentres.2.1 79 = .ok (.aload_n 0, 1) := by decide +kernel
theorem d_q_learnCentres_80 : decode M_q_learnCentres.2.1 80 = .ok (.getfield 33, 3) := by decide +kernel
theorem d_q_learnCentres_83 : decode M_q_learnCentres.2.1 83 = .ok (.getfield 111, 3) := by decide +kernel
theorem d_q_learnCentres_86 : decode M_q_learnCentres.2.1 86 = .ok (.iconst 0, 1) := by decide +kernel
theorem d_q_learnCentres_87 : decode M_q_learnCentres.2.1 87 = .ok (.invokevirtual 245, 3) := by decide +kernel
theorem d_q_learnCentres_90 : decode M_q_learnCentres.2.1 90 = .ok (.return_, 1) := by decide +kernel
theorem d_t_apply_0 : decode M_t_apply.2.1 0 = .ok (.iconst 0, 1) := by decide +kernel
theorem d_t_apply_1 : decode M_t_apply.2.1 1 = .ok (.istore_n 3, 1) := by decide +kernel
theorem d_t_apply_2 : decode M_t_apply.2.1 2 = .ok (.iload_n 3, 1) := by decide +kernel
theorem d_t_apply_3 : decode M_t_apply.2.1 3 = .ok (.iconst 4, 1) := by decide +kernel
theorem d_t_apply_4 : decode M_t_apply.2.1 4 = .ok (.if_icmp .ge 44, 3) := by decide +kernel
theorem d_t_apply_7 : decode M_t_apply.2.1 7 = .ok (.aload_n 1, 1) := by decide +kernel
theorem d_t_apply_8 : decode M_t_apply.2.1 8 = .ok (.aload_n 0, 1) := by decide +kernel
theorem d_t_apply_9 : decode M_t_apply.2.1 9 = .ok (.getfield 9, 3) := by decide +kernel
theorem d_t_apply_12 : decode M_t_apply.2.1 12 = .ok (.iload_n 3, 1) := by decide +kernel
theorem d_t_apply_13 : decode M_t_apply.2.1 13 = .ok (.iaload, 1) := by decide +kernel
theorem d_t_apply_14 : decode M_t_apply.2.1 14 = .ok (.invokestatic 27, 3) := by decide +kernel
theorem d_t_apply_17 : decode M_t_apply.2.1 17 = .ok (.iconst 1, 1) := by decide +kernel
theorem d_t_apply_18 : decode M_t_apply.2.1 18 = .ok (.isub, 1) := by decide +kernel
theorem d_t_apply_19 : decode M_t_apply.2.1 19 = .ok (.iaload, 1) := by decide +kernel
theorem d_t_apply_20 : decode M_t_apply.2.1 20 = .ok (.istore 4, 2) := by decide +kernel
theorem d_t_apply_22 : decode M_t_apply.2.1 22 = .ok (.aload_n 2, 1) := by decide +kernel
theorem d_t_apply_23 : decode M_t_apply.2.1 23 = .ok (.iload_n 3, 1) := by decide +kernel
theorem d_t_apply_24 : decode M_t_apply.2.1 24 = .ok (.aload_n 0, 1) := by decide +kernel
theorem d_t_apply_25 : decode M_t_apply.2.1 25 = .ok (.getfield 9, 3) := by decide +kernel
theorem d_t_apply_28 : decode M_t_apply.2.1 28 = .ok (.iload_n 3, 1) := by decide +kernel
theorem d_t_apply_29 : decode M_t_apply.2.1 29 = .ok (.iaload, 1) := by decide +kernel
theorem d_t_apply_30 : decode M_t_apply.2.1 30 = .ok (.ifCond .ge 9, 3) := by decide +kernel
theorem d_t_apply_33 : decode M_t_apply.2.1 33 = .ok (.iload 4, 2) := by decide +kernel
theorem d_t_apply_35 : decode M_t_apply.2.1 35 = .ok (.ineg, 1) := by decide +kernel
theorem d_t_apply_36 : decode M_t_apply.2.1 36 = .ok (.goto 5, 3) := by decide +kernel
theorem d_t_apply_39 : decode M_t_apply.2.1 39 = .ok (.iload 4, 2) := by decide +kernel
theorem d_t_apply_41 : decode M_t_apply.2.1 41 = .ok (.iastore, 1) := by decide +kernel
theorem d_t_apply_42 : decode M_t_apply.2.1 42 = .ok (.iinc 3 1, 3) := by decide +kernel
theorem d_t_apply_45 : decode M_t_apply.2.1 45 = .ok (.goto (-43), 3) := by decide +kernel
theorem d_t_apply_48 : decode M_t_apply.2.1 48 = .ok (.return_, 1) := by decide +kernel
theorem d_c_cluster_0 : decode M_c_cluster.2.1 0 = .ok (.aload_n 0, 1) := by decide +kernel
theorem d_c_cluster_1 : decode M_c_cluster.2.1 1 = .ok (.iload_n 1, 1) := by decide +kernel
theorem d_c_cluster_2 : decode M_c_cluster.2.1 2 = .ok (.putfield 29, 3) := by decide +kernel
theorem d_c_cluster_5 : decode M_c_cluster.2.1 5 = .ok (.aload_n 0, 1) := by decide +kernel
theorem d_c_cluster_6 : decode M_c_cluster.2.1 6 = .ok (.iload_n 2, 1) := by decide +kernel
theorem d_c_cluster_7 : decode M_c_cluster.2.1 7 = .ok (.putfield 33, 3) := by decide +kernel
theorem d_c_cluster_10 : decode M_c_cluster.2.1 10 = .ok (.aload_n 0, 1) := by decide +kernel
theorem d_c_cluster_11 : decode M_c_cluster.2.1 11 = .ok (.iload_n 3, 1) := by decide +kernel
theorem d_c_cluster_12 : decode M_c_cluster.2.1 12 = .ok (.putfield 36, 3) := by decide +kernel
theorem d_c_cluster_15 : decode M_c_cluster.2.1 15 = .ok (.aload_n 0, 1) := by decide +kernel
theorem d_c_cluster_16 : decode M_c_cluster.2.1 16 = .ok (.invokevirtual 39, 3) := by decide +kernel
theorem d_c_cluster_19 : decode M_c_cluster.2.1 19 = .ok (.iconst 0, 1) := by decide +kernel
theorem d_c_cluster_20 : decode M_c_cluster.2.1 20 = .ok (.istore 5, 2) := by decide +kernel
theorem d_c_cluster_22 : decode M_c_cluster.2.1 22 = .ok (.iload 5, 2) := by decide +kernel
theorem d_c_cluster_24 : decode M_c_cluster.2.1 24 = .ok (.iload 4, 2) := by decide +kernel
theorem d_c_cluster_26 : decode M_c_cluster.2.1 26 = .ok (.if_icmp .ge 21, 3) := by decide +kernel
theorem d_c_cluster_29 : decode M_c_cluster.2.1 29 = .ok (.aload_n 0, 1) := by decide +kernel
theorem d_c_cluster_30 : decode M_c_cluster.2.1 30 = .ok (.invokevirtual 42, 3) := by decide +kernel
theorem d_c_cluster_33 : decode M_c_cluster.2.1 33 = .ok (.aload_n 0, 1) := by decide +kernel
theorem d_c_cluster_34 : decode M_c_cluster.2.1 34 = .ok (.invokevirtual 45, 3) := by decide +kernel
theorem d_c_cluster_37 : decode M_c_cluster.2.1 37 = .ok (.aload_n 0, 1) := by decide +kernel
theorem d_c_cluster_38 : decode M_c_cluster.2.1 38 = .ok (.invokevirtual 48, 3) := by decide +kernel
theorem d_c_cluster_41 : decode M_c_cluster.2.1 41 = .ok (.iinc 5 1, 3) := by decide +kernel
theorem d_c_cluster_44 : decode M_c_cluster.2.1 44 = .ok (.goto (-22), 3) := by decide +kernel
theorem d_c_cluster_47 : decode M_c_cluster.2.1 47 = .ok (.return_, 1) := by decide +kernel
theorem d_c_chooseCentres_0 : decode M_c_chooseCentres.2.1 0 = .ok (.aload_n 0, 1) := by decide +kernel
theorem d_c_chooseCentres_1 : decode M_c_chooseCentres.2.1 1 = .ok (.iconst 0, 1) := by decide +kernel
theorem d_c_chooseCentres_2 : decode M_c_chooseCentres.2.1 2 = .ok (.iconst 0, 1) := by decide +kernel
theorem d_c_chooseCentres_3 : decode M_c_chooseCentres.2.1 3 = .ok (.invokevirtual 63, 3) := by decide +kernel
theorem d_c_chooseCentres_6 : decode M_c_chooseCentres.2.1 6 = .ok (.iconst 1, 1) := by decide +kernel
theorem d_c_chooseCentres_7 : decode M_c_chooseCentres.2.1 7 = .ok (.istore_n 1, 1) := by decide +kernel
theorem d_c_chooseCentres_8 : decode M_c_chooseCentres.2.1 8 = .ok (.iload_n 1, 1) := by decide +kernel
theorem d_c_chooseCentres_9 : decode M_c_chooseCentres.2.1 9 = .ok (.aload_n 0, 1) := by decide +kernel
theorem d_c_chooseCentres_10 : decode M_c_chooseCentres.2.1 10 = .ok (.getfield 36, 3) := by decide +kernel
theorem d_c_chooseCentres_13 : decode M_c_chooseCentres.2.1 13 = .ok (.if_icmp .ge 19, 3) := by decide +kernel
theorem d_c_chooseCentres_16 : decode M_c_chooseCentres.2.1 16 = .ok (.aload_n 0, 1) := by decide +kernel
theorem d_c_chooseCentres_17 : decode M_c_chooseCentres.2.1 17 = .ok (.iload_n 1, 1) := by decide +kernel
theorem d_c_chooseCentres_18 : decode M_c_chooseCentres.2.1 18 = .ok (.aload_n 0, 1) := by decide +kernel
theorem d_c_chooseCentres_19 : decode M_c_chooseCentres.2.1 19 = .ok (.iload_n 1, 1) := by decide +kernel
theorem d_c_chooseCentres_20 : decode M_c_chooseCentres.2.1 20 = .ok (.invokevirtual 67, 3) := by decide +kernel
theorem d_c_chooseCentres_23 : decode M_c_chooseCentres.2.1 23 = .ok (.invokevirtual 63, 3) := by decide +kernel
theorem d_c_chooseCentres_26 : decode M_c_chooseCentres.2.1 26 = .ok (.iinc 1 1, 3) := by decide +kernel
theorem d_c_chooseCentres_29 : decode M_c_chooseCentres.2.1 29 = .ok (.goto (-21), 3) := by decide +kernel
theorem d_c_chooseCentres_32 : decode M_c_chooseCentres.2.1 32 = .ok (.return_, 1) := by decide +kernel
theorem d_c_beginCentre_0 : decode M_c_beginCentre.2.1 0 = .ok (.iconst 0, 1) := by decide +kernel
theorem d_c_beginCentre_1 : decode M_c_beginCentre.2.1 1 = .ok (.istore_n 3, 1) := by decide +kernel
theorem d_c_beginCentre_2 : decode M_c_beginCentre.2.1 2 = .ok (.iload_n 3, 1) := by decide +kernel
theorem d_c_beginCentre_3 : decode M_c_beginCentre.2.1 3 = .ok (.aload_n 0, 1) := by decide +kernel
theorem d_c_beginCentre_4 : decode M_c_beginCentre.2.1 4 = .ok (.getfield 33, 3) := by decide +kernel
theorem d_c_beginCentre_7 : decode M_c_beginCentre.2.1 7 = .ok (.if_icmp .ge 30, 3) := by decide +kernel
theorem d_c_beginCentre_10 : decode M_c_beginCentre.2.1 10 = .ok (.aload_n 0, 1) := by decide +kernel
theorem d_c_beginCentre_11 : decode M_c_beginCentre.2.1 11 = .ok (.getfield 16, 3) := by decide +kernel
theorem d_c_beginCentre_14 : decode M_c_beginCentre.2.1 14 = .ok (.iload_n 1, 1) := by decide +kernel
theorem d_c_beginCentre_15 : decode M_c_beginCentre.2.1 15 = .ok (.aaload, 1) := by decide +kernel
theorem d_c_beginCentre_16 : decode M_c_beginCentre.2.1 16 = .ok (.iload_n 3, 1) := by decide +kernel
theorem d_c_beginCentre_17 : decode M_c_beginCentre.2.1 17 = .ok (.aload_n 0, 1) := by decide +kernel
theorem d_c_beginCentre_18 : decode M_c_beginCentre.2.1 18 = .ok (.getfield 11, 3) := by decide +kernel
theorem d_c_beginCentre_21 : decode M_c_beginCentre.2.1 21 = .ok (.iload_n 2, 1) := by decide +kernel
theorem d_c_beginCentre_22 : decode M_c_beginCentre.2.1 22 = .ok (.aaload, 1) := by decide +kernel
theorem d_c_beginCentre_23 : decode M_c_beginCentre.2.1 23 = .ok (.aload_n 0, 1) := by decide +kernel
theorem d_c_beginCentre_24 : decode M_c_beginCentre.2.1 24 = .ok (.getfield 29, 3) := by decide +kernel
theorem d_c_beginCentre_27 : decode M_c_beginCentre.2.1 27 = .ok (.iload_n 3, 1) := by decide +kernel
theorem d_c_beginCentre_28 : decode M_c_beginCentre.2.1 28 = .ok (.iadd, 1) := by decide +kernel
theorem d_c_beginCentre_29 : decode M_c_beginCentre.2.1 29 = .ok (.iaload, 1) := by decide +kernel
theorem d_c_beginCentre_30 : decode M_c_beginCentre.2.1 30 = .ok (.iastore, 1) := by decide +kernel
theorem d_c_beginCentre_31 : decode M_c_beginCentre.2.1 31 = .ok (.iinc 3 1, 3) := by decide +kernel
theorem d_c_beginCentre_34 : decode M_c_beginCentre.2.1 34 = .ok (.goto (-32), 3) := by decide +kernel
theorem d_c_beginCentre_37 : decode M_c_beginCentre.2.1 37 = .ok (.return_, 1) := by decide +kernel
theorem d_c_farthestItem_0 : decode M_c_farthestItem.2.1 0 = .ok (.iconst 0, 1) := by decide +kernel
theorem d_c_farthestItem_1 : decode M_c_farthestItem.2.1 1 = .ok (.istore_n 2, 1) := by decide +kernel
theorem d_c_farthestItem_2 : decode M_c_farthestItem.2.1 2 = .ok (.iconst (-1), 1) := by decide +kernel
theorem d_c_farthestItem_3 : decode M_c_farthestItem.2.1 3 = .ok (.istore_n 3, 1) := by decide +kernel
theorem d_c_farthestItem_4 : decode M_c_farthestItem.2.1 4 = .ok (.iconst 0, 1) := by decide +kernel
theorem d_c_farthestItem_5 : decode M_c_farthestItem.2.1 5 = .ok (.istore 4, 2) := by decide +kernel
theorem d_c_farthestItem_7 : decode M_c_farthestItem.2.1 7 = .ok (.iload 4, 2) := by decide +kernel
theorem d_c_farthestItem_9 : decode M_c_farthestItem.2.1 9 = .ok (.aload_n 0, 1) := by decide +kernel
theorem d_c_farthestItem_10 : decode M_c_farthestItem.2.1 10 = .ok (.getfield 51, 3) := by decide +kernel
theorem d_c_farthestItem_13 : decode M_c_farthestItem.2.1 13 = .ok (.if_icmp .ge 74, 3) := by decide +kernel
theorem d_c_farthestItem_16 : decode M_c_farthestItem.2.1 16 = .ok (.aload_n 0, 1) := by decide +kernel
theorem d_c_farthestItem_17 : decode M_c_farthestItem.2.1 17 = .ok (.getfield 16, 3) := by decide +kernel
theorem d_c_farthestItem_20 : decode M_c_farthestItem.2.1 20 = .ok (.iconst 0, 1) := by decide +kernel
theorem d_c_farthestItem_21 : decode M_c_farthestItem.2.1 21 = .ok (.iload_n 1, 1) := by decide +kernel
theorem d_c_farthestItem_22 : decode M_c_farthestItem.2.1 22 = .ok (.aload_n 0, 1) := by decide +kernel
theorem d_c_farthestItem_23 : decode M_c_farthestItem.2.1 23 = .ok (.getfield 11, 3) := by decide +kernel
theorem d_c_farthestItem_26 : decode M_c_farthestItem.2.1 26 = .ok (.iload 4, 2) := by decide +kernel
theorem d_c_farthestItem_28 : decode M_c_farthestItem.2.1 28 = .ok (.aaload, 1) := by decide +kernel
theorem d_c_farthestItem_29 : decode M_c_farthestItem.2.1 29 = .ok (.aload_n 0, 1) := by decide +kernel
theorem d_c_farthestItem_30 : decode M_c_farthestItem.2.1 30 = .ok (.getfield 29, 3) := by decide +kernel
theorem d_c_farthestItem_33 : decode M_c_farthestItem.2.1 33 = .ok (.aload_n 0, 1) := by decide +kernel
theorem d_c_farthestItem_34 : decode M_c_farthestItem.2.1 34 = .ok (.getfield 33, 3) := by decide +kernel
theorem d_c_farthestItem_37 : decode M_c_farthestItem.2.1 37 = .ok (.invokestatic 71, 3) := by decide +kernel
theorem d_c_farthestItem_40 : decode M_c_farthestItem.2.1 40 = .ok (.istore 5, 2) := by decide +kernel
theorem d_c_farthestItem_42 : decode M_c_farthestItem.2.1 42 = .ok (.aload_n 0, 1) := by decide +kernel
theorem d_c_farthestItem_43 : decode M_c_farthestItem.2.1 43 = .ok (.getfield 16, 3) := by decide +kernel
theorem d_c_farthestItem_46 : decode M_c_farthestItem.2.1 46 = .ok (.iload 5, 2) := by decide +kernel
theorem d_c_farthestItem_48 : decode M_c_farthestItem.2.1 48 = .ok (.aaload, 1) := by decide +kernel
theorem d_c_farthestItem_49 : decode M_c_farthestItem.2.1 49 = .ok (.aload_n 0, 1) := by decide +kernel
theorem d_c_farthestItem_50 : decode M_c_farthestItem.2.1 50 = .ok (.getfield 11, 3) := by decide +kernel
theorem d_c_farthestItem_53 : decode M_c_farthestItem.2.1 53 = .ok (.iload 4, 2) := by decide +kernel
theorem d_c_farthestItem_55 : decode M_c_farthestItem.2.1 55 = .ok (.aaload, 1) := by decide +kernel
theorem d_c_farthestItem_56 : decode M_c_farthestItem.2.1 56 = .ok (.aload_n 0, 1) := by decide +kernel
theorem d_c_farthestItem_57 : decode M_c_farthestItem.2.1 57 = .ok (.getfield 29, 3) := by decide +kernel
theorem d_c_farthestItem_60 : decode M_c_farthestItem.2.1 60 = .ok (.aload_n 0, 1) := by decide +kernel
theorem d_c_farthestItem_61 : decode M_c_farthestItem.2.1 61 = .ok (.getfield 33, 3) := by decide +kernel
theorem d_c_farthestItem_64 : decode M_c_farthestItem.2.1 64 = .ok (.invokestatic 75, 3) := by decide +kernel
theorem d_c_farthestItem_67 : decode M_c_farthestItem.2.1 67 = .ok (.istore 6, 2) := by decide +kernel
theorem d_c_farthestItem_69 : decode M_c_farthestItem.2.1 69 = .ok (.iload 6, 2) := by decide +kernel
theorem d_c_farthestItem_71 : decode M_c_farthestItem.2.1 71 = .ok (.iload_n 3, 1) := by decide +kernel
theorem d_c_farthestItem_72 : decode M_c_farthestItem.2.1 72 = .ok (.if_icmp .le 9, 3) := by decide +kernel
theorem d_c_farthestItem_75 : decode M_c_farthestItem.2.1 75 = .ok (.iload 4, 2) := by decide +kernel
theorem d_c_farthestItem_77 : decode M_c_farthestItem.2.1 77 = .ok (.istore_n 2, 1) := by decide +kernel
theorem d_c_farthestItem_78 : decode M_c_farthestItem.2.1 78 = .ok (.iload 6, 2) := by decide +kernel
theorem d_c_farthestItem_80 : decode M_c_farthestItem.2.1 80 = .ok (.istore_n 3, 1) := by decide +kernel
theorem d_c_farthestItem_81 : decode M_c_farthestItem.2.1 81 = .ok (.iinc 4 1, 3) := by decide +kernel
theorem d_c_farthestItem_84 : decode M_c_farthestItem.2.1 84 = .ok (.goto (-77), 3) := by decide +kernel
theorem d_c_farthestItem_87 : decode M_c_farthestItem.2.1 87 = .ok (.iload_n 2, 1) := by decide +kernel
theorem d_c_farthestItem_88 : decode M_c_farthestItem.2.1 88 = .ok (.ireturn, 1) := by decide +kernel
theorem d_q_nearestRow_0 : decode M_q_nearestRow.2.1 0 = .ok (.iconst 0, 1) := by decide +kernel
theorem d_q_nearestRow_1 : decode M_q_nearestRow.2.1 1 = .ok (.istore 6, 2) := by decide +kernel
theorem d_q_nearestRow_3 : decode M_q_nearestRow.2.1 3 = .ok (.aload_n 0, 1) := by decide +kernel
theorem d_q_nearestRow_4 : decode M_q_nearestRow.2.1 4 = .ok (.iload_n 1, 1) := by decide +kernel
theorem d_q_nearestRow_5 : decode M_q_nearestRow.2.1 5 = .ok (.aaload, 1) := by decide +kernel
theorem d_q_nearestRow_6 : decode M_q_nearestRow.2.1 6 = .ok (.aload_n 3, 1) := by decide +kernel
theorem d_q_nearestRow_7 : decode M_q_nearestRow.2.1 7 = .ok (.iload 4, 2) := by decide +kernel
theorem d_q_nearestRow_9 : decode M_q_nearestRow.2.1 9 = .ok (.iload 5, 2) := by decide +kernel
theorem d_q_nearestRow_11 : decode M_q_nearestRow.2.1 11 = .ok (.invokestatic 312, 3) := by decide +kernel
theorem d_q_nearestRow_14 : decode M_q_nearestRow.2.1 14 = .ok (.istore 7, 2) := by decide +kernel
theorem d_q_nearestRow_16 : decode M_q_nearestRow.2.1 16 = .ok (.iconst 1, 1) := by decide +kernel
theorem d_q_nearestRow_17 : decode M_q_nearestRow.2.1 17 = .ok (.istore 8, 2) := by decide +kernel
theorem d_q_nearestRow_19 : decode M_q_nearestRow.2.1 19 = .ok (.iload 8, 2) := by decide +kernel
theorem d_q_nearestRow_21 : decode M_q_nearestRow.2.1 21 = .ok (.iload_n 2, 1) := by decide +kernel
theorem d_q_nearestRow_22 : decode M_q_nearestRow.2.1 22 = .ok (.if_icmp .ge 40, 3) := by decide +kernel
theorem d_q_nearestRow_25 : decode M_q_nearestRow.2.1 25 = .ok (.aload_n 0, 1) := by decide +kernel
theorem d_q_nearestRow_26 : decode M_q_nearestRow.2.1 26 = .ok (.iload_n 1, 1) := by decide +kernel
theorem d_q_nearestRow_27 : decode M_q_nearestRow.2.1 27 = .ok (.iload 8, 2) := by decide +kernel
theorem d_q_nearestRow_29 : decode M_q_nearestRow.2.1 29 = .ok (.iadd, 1) := by decide +kernel
theorem d_q_nearestRow_30 : decode M_q_nearestRow.2.1 30 = .ok (.aaload, 1) := by decide +kernel
theorem d_q_nearestRow_31 : decode M_q_nearestRow.2.1 31 = .ok (.aload_n 3, 1) := by decide +kernel
theorem d_q_nearestRow_32 : decode M_q_nearestRow.2.1 32 = .ok (.iload 4, 2) := by decide +kernel
theorem d_q_nearestRow_34 : decode M_q_nearestRow.2.1 34 = .ok (.iload 5, 2) := by decide +kernel
theorem d_q_nearestRow_36 : decode M_q_nearestRow.2.1 36 = .ok (.invokestatic 312, 3) := by decide +kernel
theorem d_q_nearestRow_39 : decode M_q_nearestRow.2.1 39 = .ok (.istore 9, 2) := by decide +kernel
theorem d_q_nearestRow_41 : decode M_q_nearestRow.2.1 41 = .ok (.iload 9, 2) := by decide +kernel
end
section
theorem d_q_nearestRow_43 : decode M_q_nearestRow.2.1 43 = .ok (.iload 7, 2) := by decide +kernel
theorem d_q_nearestRow_45 : decode M_q_nearestRow.2.1 45 = .ok (.if_icmp .ge 11, 3) := by decide +kernel
theorem d_q_nearestRow_48 : decode M_q_nearestRow.2.1 48 = .ok (.iload 8, 2) := by decide +kernel
theorem d_q_nearestRow_50 : decode M_q_nearestRow.2.1 50 = .ok (.istore 6, 2) := by decide +kernel
theorem d_q_nearestRow_52 : decode M_q_nearestRow.2.1 52 = .ok (.iload 9, 2) := by decide +kernel
theorem d_q_nearestRow_54 : decode M_q_nearestRow.2.1 54 = .ok (.istore 7, 2) := by decide +kernel
theorem d_q_nearestRow_56 : decode M_q_nearestRow.2.1 56 = .ok (.iinc 8 1, 3) := by decide +kernel
theorem d_q_nearestRow_59 : decode M_q_nearestRow.2.1 59 = .ok (.goto (-40), 3) := by decide +kernel
theorem d_q_nearestRow_62 : decode M_q_nearestRow.2.1 62 = .ok (.iload 6, 2) := by decide +kernel
theorem d_q_nearestRow_64 : decode M_q_nearestRow.2.1 64 = .ok (.ireturn, 1) := by decide +kernel
theorem d_q_distance_0 : decode M_q_distance.2.1 0 = .ok (.iconst 0, 1) := by decide +kernel
theorem d_q_distance_1 : decode M_q_distance.2.1 1 = .ok (.istore 4, 2) := by decide +kernel
theorem d_q_distance_3 : decode M_q_distance.2.1 3 = .ok (.iconst 0, 1) := by decide +kernel
theorem d_q_distance_4 : decode M_q_distance.2.1 4 = .ok (.istore 5, 2) := by decide +kernel
theorem d_q_distance_6 : decode M_q_distance.2.1 6 = .ok (.iload 5, 2) := by decide +kernel
theorem d_q_distance_8 : decode M_q_distance.2.1 8 = .ok (.iload_n 3, 1) := by decide +kernel
theorem d_q_distance_9 : decode M_q_distance.2.1 9 = .ok (.if_icmp .ge 32, 3) := by decide +kernel
theorem d_q_distance_12 : decode M_q_distance.2.1 12 = .ok (.aload_n 0, 1) := by decide +kernel
theorem d_q_distance_13 : decode M_q_distance.2.1 13 = .ok (.iload 5, 2) := by decide +kernel
theorem d_q_distance_15 : decode M_q_distance.2.1 15 = .ok (.iaload, 1) := by decide +kernel
theorem d_q_distance_16 : decode M_q_distance.2.1 16 = .ok (.aload_n 1, 1) := by decide +kernel
theorem d_q_distance_17 : decode M_q_distance.2.1 17 = .ok (.iload_n 2, 1) := by decide +kernel
theorem d_q_distance_18 : decode M_q_distance.2.1 18 = .ok (.iload 5, 2) := by decide +kernel
theorem d_q_distance_20 : decode M_q_distance.2.1 20 = .ok (.iadd, 1) := by decide +kernel
theorem d_q_distance_21 : decode M_q_distance.2.1 21 = .ok (.iaload, 1) := by decide +kernel
theorem d_q_distance_22 : decode M_q_distance.2.1 22 = .ok (.isub, 1) := by decide +kernel
theorem d_q_distance_23 : decode M_q_distance.2.1 23 = .ok (.istore 6, 2) := by decide +kernel
theorem d_q_distance_25 : decode M_q_distance.2.1 25 = .ok (.iload 4, 2) := by decide +kernel
theorem d_q_distance_27 : decode M_q_distance.2.1 27 = .ok (.iload 6, 2) := by decide +kernel
theorem d_q_distance_29 : decode M_q_distance.2.1 29 = .ok (.iload 6, 2) := by decide +kernel
theorem d_q_distance_31 : decode M_q_distance.2.1 31 = .ok (.imul, 1) := by decide +kernel
theorem d_q_distance_32 : decode M_q_distance.2.1 32 = .ok (.iadd, 1) := by decide +kernel
theorem d_q_distance_33 : decode M_q_distance.2.1 33 = .ok (.istore 4, 2) := by decide +kernel
theorem d_q_distance_35 : decode M_q_distance.2.1 35 = .ok (.iinc 5 1, 3) := by decide +kernel
theorem d_q_distance_38 : decode M_q_distance.2.1 38 = .ok (.goto (-32), 3) := by decide +kernel
theorem d_q_distance_41 : decode M_q_distance.2.1 41 = .ok (.iload 4, 2) := by decide +kernel
theorem d_q_distance_43 : decode M_q_distance.2.1 43 = .ok (.ireturn, 1) := by decide +kernel
theorem d_c_countMembers_0 : decode M_c_countMembers.2.1 0 = .ok (.iconst 0, 1) := by decide +kernel
theorem d_c_countMembers_1 : decode M_c_countMembers.2.1 1 = .ok (.istore_n 1, 1) := by decide +kernel
theorem d_c_countMembers_2 : decode M_c_countMembers.2.1 2 = .ok (.iload_n 1, 1) := by decide +kernel
theorem d_c_countMembers_3 : decode M_c_countMembers.2.1 3 = .ok (.aload_n 0, 1) := by decide +kernel
theorem d_c_countMembers_4 : decode M_c_countMembers.2.1 4 = .ok (.getfield 36, 3) := by decide +kernel
theorem d_c_countMembers_7 : decode M_c_countMembers.2.1 7 = .ok (.if_icmp .ge 41, 3) := by decide +kernel
theorem d_c_countMembers_10 : decode M_c_countMembers.2.1 10 = .ok (.aload_n 0, 1) := by decide +kernel
theorem d_c_countMembers_11 : decode M_c_countMembers.2.1 11 = .ok (.getfield 22, 3) := by decide +kernel
theorem d_c_countMembers_14 : decode M_c_countMembers.2.1 14 = .ok (.iload_n 1, 1) := by decide +kernel
theorem d_c_countMembers_15 : decode M_c_countMembers.2.1 15 = .ok (.iconst 0, 1) := by decide +kernel
theorem d_c_countMembers_16 : decode M_c_countMembers.2.1 16 = .ok (.iastore, 1) := by decide +kernel
theorem d_c_countMembers_17 : decode M_c_countMembers.2.1 17 = .ok (.iconst 0, 1) := by decide +kernel
theorem d_c_countMembers_18 : decode M_c_countMembers.2.1 18 = .ok (.istore_n 2, 1) := by decide +kernel
theorem d_c_countMembers_19 : decode M_c_countMembers.2.1 19 = .ok (.iload_n 2, 1) := by decide +kernel
theorem d_c_countMembers_20 : decode M_c_countMembers.2.1 20 = .ok (.aload_n 0, 1) := by decide +kernel
theorem d_c_countMembers_21 : decode M_c_countMembers.2.1 21 = .ok (.getfield 33, 3) := by decide +kernel
theorem d_c_countMembers_24 : decode M_c_countMembers.2.1 24 = .ok (.if_icmp .ge 18, 3) := by decide +kernel
theorem d_c_countMembers_27 : decode M_c_countMembers.2.1 27 = .ok (.aload_n 0, 1) := by decide +kernel
theorem d_c_countMembers_28 : decode M_c_countMembers.2.1 28 = .ok (.getfield 19, 3) := by decide +kernel
theorem d_c_countMembers_31 : decode M_c_countMembers.2.1 31 = .ok (.iload_n 1, 1) := by decide +kernel
theorem d_c_countMembers_32 : decode M_c_countMembers.2.1 32 = .ok (.aaload, 1) := by decide +kernel
theorem d_c_countMembers_33 : decode M_c_countMembers.2.1 33 = .ok (.iload_n 2, 1) := by decide +kernel
theorem d_c_countMembers_34 : decode M_c_countMembers.2.1 34 = .ok (.iconst 0, 1) := by decide +kernel
theorem d_c_countMembers_35 : decode M_c_countMembers.2.1 35 = .ok (.iastore, 1) := by decide +kernel
theorem d_c_countMembers_36 : decode M_c_countMembers.2.1 36 = .ok (.iinc 2 1, 3) := by decide +kernel
theorem d_c_countMembers_39 : decode M_c_countMembers.2.1 39 = .ok (.goto (-20), 3) := by decide +kernel
theorem d_c_countMembers_42 : decode M_c_countMembers.2.1 42 = .ok (.iinc 1 1, 3) := by decide +kernel
theorem d_c_countMembers_45 : decode M_c_countMembers.2.1 45 = .ok (.goto (-43), 3) := by decide +kernel
theorem d_c_countMembers_48 : decode M_c_countMembers.2.1 48 = .ok (.iconst 0, 1) := by decide +kernel
theorem d_c_countMembers_49 : decode M_c_countMembers.2.1 49 = .ok (.istore_n 1, 1) := by decide +kernel
theorem d_c_countMembers_50 : decode M_c_countMembers.2.1 50 = .ok (.iload_n 1, 1) := by decide +kernel
theorem d_c_countMembers_51 : decode M_c_countMembers.2.1 51 = .ok (.aload_n 0, 1) := by decide +kernel
theorem d_c_countMembers_52 : decode M_c_countMembers.2.1 52 = .ok (.getfield 51, 3) := by decide +kernel
theorem d_c_countMembers_55 : decode M_c_countMembers.2.1 55 = .ok (.if_icmp .ge 86, 3) := by decide +kernel
theorem d_c_countMembers_58 : decode M_c_countMembers.2.1 58 = .ok (.aload_n 0, 1) := by decide +kernel
theorem d_c_countMembers_59 : decode M_c_countMembers.2.1 59 = .ok (.getfield 16, 3) := by decide +kernel
theorem d_c_countMembers_62 : decode M_c_countMembers.2.1 62 = .ok (.iconst 0, 1) := by decide +kernel
theorem d_c_countMembers_63 : decode M_c_countMembers.2.1 63 = .ok (.aload_n 0, 1) := by decide +kernel
theorem d_c_countMembers_64 : decode M_c_countMembers.2.1 64 = .ok (.getfield 36, 3) := by decide +kernel
theorem d_c_countMembers_67 : decode M_c_countMembers.2.1 67 = .ok (.aload_n 0, 1) := by decide +kernel
theorem d_c_countMembers_68 : decode M_c_countMembers.2.1 68 = .ok (.getfield 11, 3) := by decide +kernel
theorem d_c_countMembers_71 : decode M_c_countMembers.2.1 71 = .ok (.iload_n 1, 1) := by decide +kernel
theorem d_c_countMembers_72 : decode M_c_countMembers.2.1 72 = .ok (.aaload, 1) := by decide +kernel
theorem d_c_countMembers_73 : decode M_c_countMembers.2.1 73 = .ok (.aload_n 0, 1) := by decide +kernel
theorem d_c_countMembers_74 : decode M_c_countMembers.2.1 74 = .ok (.getfield 29, 3) := by decide +kernel
theorem d_c_countMembers_77 : decode M_c_countMembers.2.1 77 = .ok (.aload_n 0, 1) := by decide +kernel
theorem d_c_countMembers_78 : decode M_c_countMembers.2.1 78 = .ok (.getfield 33, 3) := by decide +kernel
theorem d_c_countMembers_81 : decode M_c_countMembers.2.1 81 = .ok (.invokestatic 71, 3) := by decide +kernel
theorem d_c_countMembers_84 : decode M_c_countMembers.2.1 84 = .ok (.istore_n 2, 1) := by decide +kernel
theorem d_c_countMembers_85 : decode M_c_countMembers.2.1 85 = .ok (.aload_n 0, 1) := by decide +kernel
theorem d_c_countMembers_86 : decode M_c_countMembers.2.1 86 = .ok (.getfield 22, 3) := by decide +kernel
theorem d_c_countMembers_89 : decode M_c_countMembers.2.1 89 = .ok (.iload_n 2, 1) := by decide +kernel
theorem d_c_countMembers_90 : decode M_c_countMembers.2.1 90 = .ok (.dup2, 1) := by decide +kernel
theorem d_c_countMembers_91 : decode M_c_countMembers.2.1 91 = .ok (.iaload, 1) := by decide +kernel
theorem d_c_countMembers_92 : decode M_c_countMembers.2.1 92 = .ok (.iconst 1, 1) := by decide +kernel
theorem d_c_countMembers_93 : decode M_c_countMembers.2.1 93 = .ok (.iadd, 1) := by decide +kernel
theorem d_c_countMembers_94 : decode M_c_countMembers.2.1 94 = .ok (.iastore, 1) := by decide +kernel
theorem d_c_countMembers_95 : decode M_c_countMembers.2.1 95 = .ok (.iconst 0, 1) := by decide +kernel
theorem d_c_countMembers_96 : decode M_c_countMembers.2.1 96 = .ok (.istore_n 3, 1) := by decide +kernel
theorem d_c_countMembers_97 : decode M_c_countMembers.2.1 97 = .ok (.iload_n 3, 1) := by decide +kernel
theorem d_c_countMembers_98 : decode M_c_countMembers.2.1 98 = .ok (.aload_n 0, 1) := by decide +kernel
theorem d_c_countMembers_99 : decode M_c_countMembers.2.1 99 = .ok (.getfield 33, 3) := by decide +kernel
theorem d_c_countMembers_102 : decode M_c_countMembers.2.1 102 = .ok (.if_icmp .ge 33, 3) := by decide +kernel
theorem d_c_countMembers_105 : decode M_c_countMembers.2.1 105 = .ok (.aload_n 0, 1) := by decide +kernel
theorem d_c_countMembers_106 : decode M_c_countMembers.2.1 106 = .ok (.getfield 19, 3) := by decide +kernel
theorem d_c_countMembers_109 : decode M_c_countMembers.2.1 109 = .ok (.iload_n 2, 1) := by decide +kernel
theorem d_c_countMembers_110 : decode M_c_countMembers.2.1 110 = .ok (.aaload, 1) := by decide +kernel
theorem d_c_countMembers_111 : decode M_c_countMembers.2.1 111 = .ok (.iload_n 3, 1) := by decide +kernel
theorem d_c_countMembers_112 : decode M_c_countMembers.2.1 112 = .ok (.dup2, 1) := by decide +kernel
theorem d_c_countMembers_113 : decode M_c_countMembers.2.1 113 = .ok (.iaload, 1) := by decide +kernel
theorem d_c_countMembers_114 : decode M_c_countMembers.2.1 114 = .ok (.aload_n 0, 1) := by decide +kernel
theorem d_c_countMembers_115 : decode M_c_countMembers.2.1 115 = .ok (.getfield 11, 3) := by decide +kernel
theorem d_c_countMembers_118 : decode M_c_countMembers.2.1 118 = .ok (.iload_n 1, 1) := by decide +kernel
theorem d_c_countMembers_119 : decode M_c_countMembers.2.1 119 = .ok (.aaload, 1) := by decide +kernel
theorem d_c_countMembers_120 : decode M_c_countMembers.2.1 120 = .ok (.aload_n 0, 1) := by decide +kernel
theorem d_c_countMembers_121 : decode M_c_countMembers.2.1 121 = .ok (.getfield 29, 3) := by decide +kernel
theorem d_c_countMembers_124 : decode M_c_countMembers.2.1 124 = .ok (.iload_n 3, 1) := by decide +kernel
theorem d_c_countMembers_125 : decode M_c_countMembers.2.1 125 = .ok (.iadd, 1) := by decide +kernel
theorem d_c_countMembers_126 : decode M_c_countMembers.2.1 126 = .ok (.iaload, 1) := by decide +kernel
theorem d_c_countMembers_127 : decode M_c_countMembers.2.1 127 = .ok (.iadd, 1) := by decide +kernel
theorem d_c_countMembers_128 : decode M_c_countMembers.2.1 128 = .ok (.iastore, 1) := by decide +kernel
theorem d_c_countMembers_129 : decode M_c_countMembers.2.1 129 = .ok (.iinc 3 1, 3) := by decide +kernel
theorem d_c_countMembers_132 : decode M_c_countMembers.2.1 132 = .ok (.goto (-35), 3) := by decide +kernel
theorem d_c_countMembers_135 : decode M_c_countMembers.2.1 135 = .ok (.iinc 1 1, 3) := by decide +kernel
theorem d_c_countMembers_138 : decode M_c_countMembers.2.1 138 = .ok (.goto (-88), 3) := by decide +kernel
theorem d_c_countMembers_141 : decode M_c_countMembers.2.1 141 = .ok (.return_, 1) := by decide +kernel
theorem d_c_moveToMeans_0 : decode M_c_moveToMeans.2.1 0 = .ok (.iconst 0, 1) := by decide +kernel
theorem d_c_moveToMeans_1 : decode M_c_moveToMeans.2.1 1 = .ok (.istore_n 1, 1) := by decide +kernel
theorem d_c_moveToMeans_2 : decode M_c_moveToMeans.2.1 2 = .ok (.iload_n 1, 1) := by decide +kernel
theorem d_c_moveToMeans_3 : decode M_c_moveToMeans.2.1 3 = .ok (.aload_n 0, 1) := by decide +kernel
theorem d_c_moveToMeans_4 : decode M_c_moveToMeans.2.1 4 = .ok (.getfield 36, 3) := by decide +kernel
theorem d_c_moveToMeans_7 : decode M_c_moveToMeans.2.1 7 = .ok (.if_icmp .ge 59, 3) := by decide +kernel
theorem d_c_moveToMeans_10 : decode M_c_moveToMeans.2.1 10 = .ok (.aload_n 0, 1) := by decide +kernel
theorem d_c_moveToMeans_11 : decode M_c_moveToMeans.2.1 11 = .ok (.getfield 22, 3) := by decide +kernel
theorem d_c_moveToMeans_14 : decode M_c_moveToMeans.2.1 14 = .ok (.iload_n 1, 1) := by decide +kernel
theorem d_c_moveToMeans_15 : decode M_c_moveToMeans.2.1 15 = .ok (.iaload, 1) := by decide +kernel
theorem d_c_moveToMeans_16 : decode M_c_moveToMeans.2.1 16 = .ok (.ifCond .le 44, 3) := by decide +kernel
theorem d_c_moveToMeans_19 : decode M_c_moveToMeans.2.1 19 = .ok (.iconst 0, 1) := by decide +kernel
theorem d_c_moveToMeans_20 : decode M_c_moveToMeans.2.1 20 = .ok (.istore_n 2, 1) := by decide +kernel
theorem d_c_moveToMeans_21 : decode M_c_moveToMeans.2.1 21 = .ok (.iload_n 2, 1) := by decide +kernel
theorem d_c_moveToMeans_22 : decode M_c_moveToMeans.2.1 22 = .ok (.aload_n 0, 1) := by decide +kernel
theorem d_c_moveToMeans_23 : decode M_c_moveToMeans.2.1 23 = .ok (.getfield 33, 3) := by decide +kernel
theorem d_c_moveToMeans_26 : decode M_c_moveToMeans.2.1 26 = .ok (.if_icmp .ge 34, 3) := by decide +kernel
theorem d_c_moveToMeans_29 : decode M_c_moveToMeans.2.1 29 = .ok (.aload_n 0, 1) := by decide +kernel
theorem d_c_moveToMeans_30 : decode M_c_moveToMeans.2.1 30 = .ok (.getfield 16, 3) := by decide +kernel
theorem d_c_moveToMeans_33 : decode M_c_moveToMeans.2.1 33 = .ok (.iload_n 1, 1) := by decide +kernel
theorem d_c_moveToMeans_34 : decode M_c_moveToMeans.2.1 34 = .ok (.aaload, 1) := by decide +kernel
theorem d_c_moveToMeans_35 : decode M_c_moveToMeans.2.1 35 = .ok (.iload_n 2, 1) := by decide +kernel
theorem d_c_moveToMeans_36 : decode M_c_moveToMeans.2.1 36 = .ok (.aload_n 0, 1) := by decide +kernel
theorem d_c_moveToMeans_37 : decode M_c_moveToMeans.2.1 37 = .ok (.getfield 19, 3) := by decide +kernel
theorem d_c_moveToMeans_40 : decode M_c_moveToMeans.2.1 40 = .ok (.iload_n 1, 1) := by decide +kernel
theorem d_c_moveToMeans_41 : decode M_c_moveToMeans.2.1 41 = .ok (.aaload, 1) := by decide +kernel
theorem d_c_moveToMeans_42 : decode M_c_moveToMeans.2.1 42 = .ok (.iload_n 2, 1) := by decide +kernel
theorem d_c_moveToMeans_43 : decode M_c_moveToMeans.2.1 43 = .ok (.iaload, 1) := by decide +kernel
theorem d_c_moveToMeans_44 : decode M_c_moveToMeans.2.1 44 = .ok (.aload_n 0, 1) := by decide +kernel
theorem d_c_moveToMeans_45 : decode M_c_moveToMeans.2.1 45 = .ok (.getfield 22, 3) := by decide +kernel
theorem d_c_moveToMeans_48 : decode M_c_moveToMeans.2.1 48 = .ok (.iload_n 1, 1) := by decide +kernel
theorem d_c_moveToMeans_49 : decode M_c_moveToMeans.2.1 49 = .ok (.iaload, 1) := by decide +kernel
theorem d_c_moveToMeans_50 : decode M_c_moveToMeans.2.1 50 = .ok (.invokestatic 79, 3) := by decide +kernel
theorem d_c_moveToMeans_53 : decode M_c_moveToMeans.2.1 53 = .ok (.iastore, 1) := by decide +kernel
theorem d_c_moveToMeans_54 : decode M_c_moveToMeans.2.1 54 = .ok (.iinc 2 1, 3) := by decide +kernel
theorem d_c_moveToMeans_57 : decode M_c_moveToMeans.2.1 57 = .ok (.goto (-36), 3) := by decide +kernel
theorem d_c_moveToMeans_60 : decode M_c_moveToMeans.2.1 60 = .ok (.iinc 1 1, 3) := by decide +kernel
theorem d_c_moveToMeans_63 : decode M_c_moveToMeans.2.1 63 = .ok (.goto (-61), 3) := by decide +kernel
theorem d_c_moveToMeans_66 : decode M_c_moveToMeans.2.1 66 = .ok (.return_, 1) := by decide +kernel
theorem d_j_floorDiv_0 : decode M_j_floorDiv.2.1 0 = .ok (.iload_n 0, 1) := by decide +kernel
theorem d_j_floorDiv_1 : decode M_j_floorDiv.2.1 1 = .ok (.iload_n 1, 1) := by decide +kernel
theorem d_j_floorDiv_2 : decode M_j_floorDiv.2.1 2 = .ok (.idiv, 1) := by decide +kernel
theorem d_j_floorDiv_3 : decode M_j_floorDiv.2.1 3 = .ok (.istore_n 2, 1) := by decide +kernel
theorem d_j_floorDiv_4 : decode M_j_floorDiv.2.1 4 = .ok (.iload_n 0, 1) := by decide +kernel
theorem d_j_floorDiv_5 : decode M_j_floorDiv.2.1 5 = .ok (.iload_n 1, 1) := by decide +kernel
theorem d_j_floorDiv_6 : decode M_j_floorDiv.2.1 6 = .ok (.ixor, 1) := by decide +kernel
theorem d_j_floorDiv_7 : decode M_j_floorDiv.2.1 7 = .ok (.ifCond .ge 14, 3) := by decide +kernel
theorem d_j_floorDiv_10 : decode M_j_floorDiv.2.1 10 = .ok (.iload_n 2, 1) := by decide +kernel
theorem d_j_floorDiv_11 : decode M_j_floorDiv.2.1 11 = .ok (.iload_n 1, 1) := by decide +kernel
theorem d_j_floorDiv_12 : decode M_j_floorDiv.2.1 12 = .ok (.imul, 1) := by decide +kernel
theorem d_j_floorDiv_13 : decode M_j_floorDiv.2.1 13 = .ok (.iload_n 0, 1) := by decide +kernel
theorem d_j_floorDiv_14 : decode M_j_floorDiv.2.1 14 = .ok (.if_icmp .eq 7, 3) := by decide +kernel
theorem d_j_floorDiv_17 : decode M_j_floorDiv.2.1 17 = .ok (.iload_n 2, 1) := by decide +kernel
theorem d_j_floorDiv_18 : decode M_j_floorDiv.2.1 18 = .ok (.iconst 1, 1) := by decide +kernel
theorem d_j_floorDiv_19 : decode M_j_floorDiv.2.1 19 = .ok (.isub, 1) := by decide +kernel
theorem d_j_floorDiv_20 : decode M_j_floorDiv.2.1 20 = .ok (.ireturn, 1) := by decide +kernel
theorem d_j_floorDiv_21 : decode M_j_floorDiv.2.1 21 = .ok (.iload_n 2, 1) := by decide +kernel
theorem d_j_floorDiv_22 : decode M_j_floorDiv.2.1 22 = .ok (.ireturn, 1) := by decide +kernel
theorem d_c_fillEmptyCentres_0 : decode M_c_fillEmptyCentres.2.1 0 = .ok (.iconst 0, 1) := by decide +kernel
theorem d_c_fillEmptyCentres_1 : decode M_c_fillEmptyCentres.2.1 1 = .ok (.istore_n 1, 1) := by decide +kernel
theorem d_c_fillEmptyCentres_2 : decode M_c_fillEmptyCentres.2.1 2 = .ok (.iload_n 1, 1) := by decide +kernel
theorem d_c_fillEmptyCentres_3 : decode M_c_fillEmptyCentres.2.1 3 = .ok (.aload_n 0, 1) := by decide +kernel
theorem d_c_fillEmptyCentres_4 : decode M_c_fillEmptyCentres.2.1 4 = .ok (.getfield 36, 3) := by decide +kernel
theorem d_c_fillEmptyCentres_7 : decode M_c_fillEmptyCentres.2.1 7 = .ok (.if_icmp .ge 21, 3) := by decide +kernel
theorem d_c_fillEmptyCentres_10 : decode M_c_fillEmptyCentres.2.1 10 = .ok (.aload_n 0, 1) := by decide +kernel
theorem d_c_fillEmptyCentres_11 : decode M_c_fillEmptyCentres.2.1 11 = .ok (.getfield 26, 3) := by decide +kernel
theorem d_c_fillEmptyCentres_14 : decode M_c_fillEmptyCentres.2.1 14 = .ok (.iload_n 1, 1) := by decide +kernel
theorem d_c_fillEmptyCentres_15 : decode M_c_fillEmptyCentres.2.1 15 = .ok (.aload_n 0, 1) := by decide +kernel
theorem d_c_fillEmptyCentres_16 : decode M_c_fillEmptyCentres.2.1 16 = .ok (.getfield 22, 3) := by decide +kernel
theorem d_c_fillEmptyCentres_19 : decode M_c_fillEmptyCentres.2.1 19 = .ok (.iload_n 1, 1) := by decide +kernel
theorem d_c_fillEmptyCentres_20 : decode M_c_fillEmptyCentres.2.1 20 = .ok (.iaload, 1) := by decide +kernel
theorem d_c_fillEmptyCentres_21 : decode M_c_fillEmptyCentres.2.1 21 = .ok (.iastore, 1) := by decide +kernel
theorem d_c_fillEmptyCentres_22 : decode M_c_fillEmptyCentres.2.1 22 = .ok (.iinc 1 1, 3) := by decide +kernel
theorem d_c_fillEmptyCentres_25 : decode M_c_fillEmptyCentres.2.1 25 = .ok (.goto (-23), 3) := by decide +kernel
theorem d_c_fillEmptyCentres_28 : decode M_c_fillEmptyCentres.2.1 28 = .ok (.iconst 0, 1) := by decide +kernel
theorem d_c_fillEmptyCentres_29 : decode M_c_fillEmptyCentres.2.1 29 = .ok (.istore_n 1, 1) := by decide +kernel
theorem d_c_fillEmptyCentres_30 : decode M_c_fillEmptyCentres.2.1 30 = .ok (.iload_n 1, 1) := by decide +kernel
theorem d_c_fillEmptyCentres_31 : decode M_c_fillEmptyCentres.2.1 31 = .ok (.aload_n 0, 1) := by decide +kernel
theorem d_c_fillEmptyCentres_32 : decode M_c_fillEmptyCentres.2.1 32 = .ok (.getfield 36, 3) := by decide +kernel
theorem d_c_fillEmptyCentres_35 : decode M_c_fillEmptyCentres.2.1 35 = .ok (.if_icmp .ge 27, 3) := by decide +kernel
theorem d_c_fillEmptyCentres_38 : decode M_c_fillEmptyCentres.2.1 38 = .ok (.aload_n 0, 1) := by decide +kernel
theorem d_c_fillEmptyCentres_39 : decode M_c_fillEmptyCentres.2.1 39 = .ok (.getfield 22, 3) := by decide +kernel
theorem d_c_fillEmptyCentres_42 : decode M_c_fillEmptyCentres.2.1 42 = .ok (.iload_n 1, 1) := by decide +kernel
theorem d_c_fillEmptyCentres_43 : decode M_c_fillEmptyCentres.2.1 43 = .ok (.iaload, 1) := by decide +kernel
theorem d_c_fillEmptyCentres_44 : decode M_c_fillEmptyCentres.2.1 44 = .ok (.ifCond .ne 12, 3) := by decide +kernel
theorem d_c_fillEmptyCentres_47 : decode M_c_fillEmptyCentres.2.1 47 = .ok (.aload_n 0, 1) := by decide +kernel
theorem d_c_fillEmptyCentres_48 : decode M_c_fillEmptyCentres.2.1 48 = .ok (.iload_n 1, 1) := by decide +kernel
theorem d_c_fillEmptyCentres_49 : decode M_c_fillEmptyCentres.2.1 49 = .ok (.aload_n 0, 1) := by decide +kernel
theorem d_c_fillEmptyCentres_50 : decode M_c_fillEmptyCentres.2.1 50 = .ok (.invokevirtual 82, 3) := by decide +kernel
theorem d_c_fillEmptyCentres_53 : decode M_c_fillEmptyCentres.2.1 53 = .ok (.invokevirtual 86, 3) := by decide +kernel
theorem d_c_fillEmptyCentres_56 : decode M_c_fillEmptyCentres.2.1 56 = .ok (.iinc 1 1, 3) := by decide +kernel
theorem d_c_fillEmptyCentres_59 : decode M_c_fillEmptyCentres.2.1 59 = .ok (.goto (-29), 3) := by decide +kernel
theorem d_c_fillEmptyCentres_62 : decode M_c_fillEmptyCentres.2.1 62 = .ok (.return_, 1) := by decide +kernel
theorem d_c_greatestShare_0 : decode M_c_greatestShare.2.1 0 = .ok (.iconst 0, 1) := by decide +kernel
theorem d_c_greatestShare_1 : decode M_c_greatestShare.2.1 1 = .ok (.istore_n 1, 1) := by decide +kernel
theorem d_c_greatestShare_2 : decode M_c_greatestShare.2.1 2 = .ok (.iconst 1, 1) := by decide +kernel
theorem d_c_greatestShare_3 : decode M_c_greatestShare.2.1 3 = .ok (.istore_n 2, 1) := by decide +kernel
theorem d_c_greatestShare_4 : decode M_c_greatestShare.2.1 4 = .ok (.iload_n 2, 1) := by decide +kernel
theorem d_c_greatestShare_5 : decode M_c_greatestShare.2.1 5 = .ok (.aload_n 0, 1) := by decide +kernel
theorem d_c_greatestShare_6 : decode M_c_greatestShare.2.1 6 = .ok (.getfield 36, 3) := by decide +kernel
theorem d_c_greatestShare_9 : decode M_c_greatestShare.2.1 9 = .ok (.if_icmp .ge 26, 3) := by decide +kernel
theorem d_c_greatestShare_12 : decode M_c_greatestShare.2.1 12 = .ok (.aload_n 0, 1) := by decide +kernel
theorem d_c_greatestShare_13 : decode M_c_greatestShare.2.1 13 = .ok (.getfield 26, 3) := by decide +kernel
theorem d_c_greatestShare_16 : decode M_c_greatestShare.2.1 16 = .ok (.iload_n 2, 1) := by decide +kernel
theorem d_c_greatestShare_17 : decode M_c_greatestShare.2.1 17 = .ok (.iaload, 1) := by decide +kernel
theorem d_c_greatestShare_18 : decode M_c_greatestShare.2.1 18 = .ok (.aload_n 0, 1) := by decide +kernel
theorem d_c_greatestShare_19 : decode M_c_greatestShare.2.1 19 = .ok (.getfield 26, 3) := by decide +kernel
theorem d_c_greatestShare_22 : decode M_c_greatestShare.2.1 22 = .ok (.iload_n 1, 1) := by decide +kernel
theorem d_c_greatestShare_23 : decode M_c_greatestShare.2.1 23 = .ok (.iaload, 1) := by decide +kernel
theorem d_c_greatestShare_24 : decode M_c_greatestShare.2.1 24 = .ok (.if_icmp .le 5, 3) := by decide +kernel
theorem d_c_greatestShare_27 : decode M_c_greatestShare.2.1 27 = .ok (.iload_n 2, 1) := by decide +kernel
theorem d_c_greatestShare_28 : decode M_c_greatestShare.2.1 28 = .ok (.istore_n 1, 1) := by decide +kernel
theorem d_c_greatestShare_29 : decode M_c_greatestShare.2.1 29 = .ok (.iinc 2 1, 3) := by decide +kernel
theorem d_c_greatestShare_32 : decode M_c_greatestShare.2.1 32 = .ok (.goto (-28), 3) := by decide +kernel
theorem d_c_greatestShare_35 : decode M_c_greatestShare.2.1 35 = .ok (.iload_n 1, 1) := by decide +kernel
theorem d_c_greatestShare_36 : decode M_c_greatestShare.2.1 36 = .ok (.ireturn, 1) := by decide +kernel
theorem d_c_splitInto_0 : decode M_c_splitInto.2.1 0 = .ok (.iconst 0, 1) := by decide +kernel
theorem d_c_splitInto_1 : decode M_c_splitInto.2.1 1 = .ok (.istore_n 3, 1) := by decide +kernel
theorem d_c_splitInto_2 : decode M_c_splitInto.2.1 2 = .ok (.iload_n 3, 1) := by decide +kernel
theorem d_c_splitInto_3 : decode M_c_splitInto.2.1 3 = .ok (.aload_n 0, 1) := by decide +kernel
theorem d_c_splitInto_4 : decode M_c_splitInto.2.1 4 = .ok (.getfield 33, 3) := by decide +kernel
theorem d_c_splitInto_7 : decode M_c_splitInto.2.1 7 = .ok (.if_icmp .ge 25, 3) := by decide +kernel
theorem d_c_splitInto_10 : decode M_c_splitInto.2.1 10 = .ok (.aload_n 0, 1) := by decide +kernel
theorem d_c_splitInto_11 : decode M_c_splitInto.2.1 11 = .ok (.getfield 16, 3) := by decide +kernel
theorem d_c_splitInto_14 : decode M_c_splitInto.2.1 14 = .ok (.iload_n 1, 1) := by decide +kernel
theorem d_c_splitInto_15 : decode M_c_splitInto.2.1 15 = .ok (.aaload, 1) := by decide +kernel
theorem d_c_splitInto_16 : decode M_c_splitInto.2.1 16 = .ok (.iload_n 3, 1) := by decide +kernel
theorem d_c_splitInto_17 : decode M_c_splitInto.2.1 17 = .ok (.aload_n 0, 1) := by decide +kernel
theorem d_c_splitInto_18 : decode M_c_splitInto.2.1 18 = .ok (.getfield 16, 3) := by decide +kernel
theorem d_c_splitInto_21 : decode M_c_splitInto.2.1 21 = .ok (.iload_n 2, 1) := by decide +kernel
theorem d_c_splitInto_22 : decode M_c_splitInto.2.1 22 = .ok (.aaload, 1) := by decide +kernel
theorem d_c_splitInto_23 : decode M_c_splitInto.2.1 23 = .ok (.iload_n 3, 1) := by decide +kernel
theorem d_c_splitInto_24 : decode M_c_splitInto.2.1 24 = .ok (.iaload, 1) := by decide +kernel
theorem d_c_splitInto_25 : decode M_c_splitInto.2.1 25 = .ok (.iastore, 1) := by decide +kernel
theorem d_c_splitInto_26 : decode M_c_splitInto.2.1 26 = .ok (.iinc 3 1, 3) := by decide +kernel
theorem d_c_splitInto_29 : decode M_c_splitInto.2.1 29 = .ok (.goto (-27), 3) := by decide +kernel
theorem d_c_splitInto_32 : decode M_c_splitInto.2.1 32 = .ok (.aload_n 0, 1) := by decide +kernel
theorem d_c_splitInto_33 : decode M_c_splitInto.2.1 33 = .ok (.getfield 16, 3) := by decide +kernel
theorem d_c_splitInto_36 : decode M_c_splitInto.2.1 36 = .ok (.iload_n 1, 1) := by decide +kernel
theorem d_c_splitInto_37 : decode M_c_splitInto.2.1 37 = .ok (.aaload, 1) := by decide +kernel
theorem d_c_splitInto_38 : decode M_c_splitInto.2.1 38 = .ok (.iconst 0, 1) := by decide +kernel
theorem d_c_splitInto_39 : decode M_c_splitInto.2.1 39 = .ok (.dup2, 1) := by decide +kernel
theorem d_c_splitInto_40 : decode M_c_splitInto.2.1 40 = .ok (.iaload, 1) := by decide +kernel
theorem d_c_splitInto_41 : decode M_c_splitInto.2.1 41 = .ok (.iconst 1, 1) := by decide +kernel
theorem d_c_splitInto_42 : decode M_c_splitInto.2.1 42 = .ok (.iadd, 1) := by decide +kernel
theorem d_c_splitInto_43 : decode M_c_splitInto.2.1 43 = .ok (.iastore, 1) := by decide +kernel
theorem d_c_splitInto_44 : decode M_c_splitInto.2.1 44 = .ok (.aload_n 0, 1) := by decide +kernel
theorem d_c_splitInto_45 : decode M_c_splitInto.2.1 45 = .ok (.getfield 26, 3) := by decide +kernel
theorem d_c_splitInto_48 : decode M_c_splitInto.2.1 48 = .ok (.iload_n 1, 1) := by decide +kernel
theorem d_c_splitInto_49 : decode M_c_splitInto.2.1 49 = .ok (.aload_n 0, 1) := by decide +kernel
theorem d_c_splitInto_50 : decode M_c_splitInto.2.1 50 = .ok (.getfield 26, 3) := by decide +kernel
theorem d_c_splitInto_53 : decode M_c_splitInto.2.1 53 = .ok (.iload_n 2, 1) := by decide +kernel
theorem d_c_splitInto_54 : decode M_c_splitInto.2.1 54 = .ok (.iaload, 1) := by decide +kernel
theorem d_c_splitInto_55 : decode M_c_splitInto.2.1 55 = .ok (.iconst 2, 1) := by decide +kernel
theorem d_c_splitInto_56 : decode M_c_splitInto.2.1 56 = .ok (.idiv, 1) := by decide +kernel
theorem d_c_splitInto_57 : decode M_c_splitInto.2.1 57 = .ok (.iastore, 1) := by decide +kernel
theorem d_c_splitInto_58 : decode M_c_splitInto.2.1 58 = .ok (.aload_n 0, 1) := by decide +kernel
theorem d_c_splitInto_59 : decode M_c_splitInto.2.1 59 = .ok (.getfield 26, 3) := by decide +kernel
theorem d_c_splitInto_62 : decode M_c_splitInto.2.1 62 = .ok (.iload_n 2, 1) := by decide +kernel
theorem d_c_splitInto_63 : decode M_c_splitInto.2.1 63 = .ok (.dup2, 1) := by decide +kernel
theorem d_c_splitInto_64 : decode M_c_splitInto.2.1 64 = .ok (.iaload, 1) := by decide +kernel
theorem d_c_splitInto_65 : decode M_c_splitInto.2.1 65 = .ok (.aload_n 0, 1) := by decide +kernel
theorem d_c_splitInto_66 : decode M_c_splitInto.2.1 66 = .ok (.getfield 26, 3) := by decide +kernel
theorem d_c_splitInto_69 : decode M_c_splitInto.2.1 69 = .ok (.iload_n 1, 1) := by decide +kernel
theorem d_c_splitInto_70 : decode M_c_splitInto.2.1 70 = .ok (.iaload, 1) := by decide +kernel
theorem d_c_splitInto_71 : decode M_c_splitInto.2.1 71 = .ok (.isub, 1) := by decide +kernel
theorem d_c_splitInto_72 : decode M_c_splitInto.2.1 72 = .ok (.iastore, 1) := by decide +kernel
theorem d_c_splitInto_73 : decode M_c_splitInto.2.1 73 = .ok (.return_, 1) := by decide +kernel
theorem d_c_giveCentres_0 : decode M_c_giveCentres.2.1 0 = .ok (.iconst 0, 1) := by decide +kernel
theorem d_c_giveCentres_1 : decode M_c_giveCentres.2.1 1 = .ok (.istore_n 3, 1) := by decide +kernel
theorem d_c_giveCentres_2 : decode M_c_giveCentres.2.1 2 = .ok (.iload_n 3, 1) := by decide +kernel
theorem d_c_giveCentres_3 : decode M_c_giveCentres.2.1 3 = .ok (.aload_n 0, 1) := by decide +kernel
theorem d_c_giveCentres_4 : decode M_c_giveCentres.2.1 4 = .ok (.getfield 36, 3) := by decide +kernel
theorem d_c_giveCentres_7 : decode M_c_giveCentres.2.1 7 = .ok (.if_icmp .ge 44, 3) := by decide +kernel
theorem d_c_giveCentres_10 : decode M_c_giveCentres.2.1 10 = .ok (.iconst 0, 1) := by decide +kernel
theorem d_c_giveCentres_11 : decode M_c_giveCentres.2.1 11 = .ok (.istore 4, 2) := by decide +kernel
theorem d_c_giveCentres_13 : decode M_c_giveCentres.2.1 13 = .ok (.iload 4, 2) := by decide +kernel
theorem d_c_giveCentres_15 : decode M_c_giveCentres.2.1 15 = .ok (.aload_n 0, 1) := by decide +kernel
theorem d_c_giveCentres_16 : decode M_c_giveCentres.2.1 16 = .ok (.getfield 33, 3) := by decide +kernel
theorem d_c_giveCentres_19 : decode M_c_giveCentres.2.1 19 = .ok (.if_icmp .ge 26, 3) := by decide +kernel
theorem d_c_giveCentres_22 : decode M_c_giveCentres.2.1 22 = .ok (.aload_n 1, 1) := by decide +kernel
theorem d_c_giveCentres_23 : decode M_c_giveCentres.2.1 23 = .ok (.iload_n 2, 1) := by decide +kernel
theorem d_c_giveCentres_24 : decode M_c_giveCentres.2.1 24 = .ok (.iload_n 3, 1) := by decide +kernel
theorem d_c_giveCentres_25 : decode M_c_giveCentres.2.1 25 = .ok (.iadd, 1) := by decide +kernel
theorem d_c_giveCentres_26 : decode M_c_giveCentres.2.1 26 = .ok (.aaload, 1) := by decide +kernel
theorem d_c_giveCentres_27 : decode M_c_giveCentres.2.1 27 = .ok (.iload 4, 2) := by decide +kernel
theorem d_c_giveCentres_29 : decode M_c_giveCentres.2.1 29 = .ok (.aload_n 0, 1) := by decide +kernel
theorem d_c_giveCentres_30 : decode M_c_giveCentres.2.1 30 = .ok (.getfield 16, 3) := by decide +kernel
theorem d_c_giveCentres_33 : decode M_c_giveCentres.2.1 33 = .ok (.iload_n 3, 1) := by decide +kernel
theorem d_c_giveCentres_34 : decode M_c_giveCentres.2.1 34 = .ok (.aaload, 1) := by decide +kernel
theorem d_c_giveCentres_35 : decode M_c_giveCentres.2.1 35 = .ok (.iload 4, 2) := by decide +kernel
theorem d_c_giveCentres_37 : decode M_c_giveCentres.2.1 37 = .ok (.iaload, 1) := by decide +kernel
theorem d_c_giveCentres_38 : decode M_c_giveCentres.2.1 38 = .ok (.iastore, 1) := by decide +kernel
theorem d_c_giveCentres_39 : decode M_c_giveCentres.2.1 39 = .ok (.iinc 4 1, 3) := by decide +kernel
theorem d_c_giveCentres_42 : decode M_c_giveCentres.2.1 42 = .ok (.goto (-29), 3) := by decide +kernel
theorem d_c_giveCentres_45 : decode M_c_giveCentres.2.1 45 = .ok (.iinc 3 1, 3) := by decide +kernel
theorem d_c_giveCentres_48 : decode M_c_giveCentres.2.1 48 = .ok (.goto (-46), 3) := by decide +kernel
theorem d_c_giveCentres_51 : decode M_c_giveCentres.2.1 51 = .ok (.return_, 1) := by decide +kernel
theorem d_q_keepWhatIsLeft_0 : decode M_q_keepWhatIsLeft.2.1 0 = .ok (.iconst 0, 1) := by decide +kernel
theorem d_q_keepWhatIsLeft_1 : decode M_q_keepWhatIsLeft.2.1 1 = .ok (.istore_n 1, 1) := by decide +kernel
theorem d_q_keepWhatIsLeft_2 : decode M_q_keepWhatIsLeft.2.1 2 = .ok (.iload_n 1, 1) := by decide +kernel
theorem d_q_keepWhatIsLeft_3 : decode M_q_keepWhatIsLeft.2.1 3 = .ok (.aload_n 0, 1) := by decide +kernel
theorem d_q_keepWhatIsLeft_4 : decode M_q_keepWhatIsLeft.2.1 4 = .ok (.getfield 26, 3) := by decide +kernel
theorem d_q_keepWhatIsLeft_7 : decode M_q_keepWhatIsLeft.2.1 7 = .ok (.getfield 233, 3) := by decide +kernel
theorem d_q_keepWhatIsLeft_10 : decode M_q_keepWhatIsLeft.2.1 10 = .ok (.if_icmp .ge 40, 3) := by decide +kernel
theorem d_q_keepWhatIsLeft_13 : decode M_q_keepWhatIsLeft.2.1 13 = .ok (.aload_n 0, 1) := by decide +kernel
theorem d_q_keepWhatIsLeft_14 : decode M_q_keepWhatIsLeft.2.1 14 = .ok (.getfield 26, 3) := by decide +kernel
theorem d_q_keepWhatIsLeft_17 : decode M_q_keepWhatIsLeft.2.1 17 = .ok (.getfield 236, 3) := by decide +kernel
theorem d_q_keepWhatIsLeft_20 : decode M_q_keepWhatIsLeft.2.1 20 = .ok (.iload_n 1, 1) := by decide +kernel
theorem d_q_keepWhatIsLeft_21 : decode M_q_keepWhatIsLeft.2.1 21 = .ok (.aaload, 1) := by decide +kernel
theorem d_q_keepWhatIsLeft_22 : decode M_q_keepWhatIsLeft.2.1 22 = .ok (.astore_n 2, 1) := by decide +kernel
theorem d_q_keepWhatIsLeft_23 : decode M_q_keepWhatIsLeft.2.1 23 = .ok (.aload_n 2, 1) := by decide +kernel
theorem d_q_keepWhatIsLeft_24 : decode M_q_keepWhatIsLeft.2.1 24 = .ok (.aload_n 0, 1) := by decide +kernel
theorem d_q_keepWhatIsLeft_25 : decode M_q_keepWhatIsLeft.2.1 25 = .ok (.getfield 33, 3) := by decide +kernel
theorem d_q_keepWhatIsLeft_28 : decode M_q_keepWhatIsLeft.2.1 28 = .ok (.getfield 111, 3) := by decide +kernel
theorem d_q_keepWhatIsLeft_31 : decode M_q_keepWhatIsLeft.2.1 31 = .ok (.aload_n 0, 1) := by decide +kernel
theorem d_q_keepWhatIsLeft_32 : decode M_q_keepWhatIsLeft.2.1 32 = .ok (.getfield 33, 3) := by decide +kernel
theorem d_q_keepWhatIsLeft_35 : decode M_q_keepWhatIsLeft.2.1 35 = .ok (.aload_n 2, 1) := by decide +kernel
theorem d_q_keepWhatIsLeft_36 : decode M_q_keepWhatIsLeft.2.1 36 = .ok (.invokevirtual 249, 3) := by decide +kernel
theorem d_q_keepWhatIsLeft_39 : decode M_q_keepWhatIsLeft.2.1 39 = .ok (.aaload, 1) := by decide +kernel
theorem d_q_keepWhatIsLeft_40 : decode M_q_keepWhatIsLeft.2.1 40 = .ok (.aload_n 2, 1) := by decide +kernel
theorem d_q_keepWhatIsLeft_41 : decode M_q_keepWhatIsLeft.2.1 41 = .ok (.invokestatic 253, 3) := by decide +kernel
theorem d_q_keepWhatIsLeft_44 : decode M_q_keepWhatIsLeft.2.1 44 = .ok (.iinc 1 1, 3) := by decide +kernel
theorem d_q_keepWhatIsLeft_47 : decode M_q_keepWhatIsLeft.2.1 47 = .ok (.goto (-45), 3) := by decide +kernel
theorem d_q_keepWhatIsLeft_50 : decode M_q_keepWhatIsLeft.2.1 50 = .ok (.return_, 1) := by decide +kernel
theorem d_z_nearestList_0 : decode M_z_nearestList.2.1 0 = .ok (.aload_n 0, 1) := by decide +kernel
theorem d_z_nearestList_1 : decode M_z_nearestList.2.1 1 = .ok (.getfield 11, 3) := by decide +kernel
theorem d_z_nearestList_4 : decode M_z_nearestList.2.1 4 = .ok (.iconst 0, 1) := by decide +kernel
theorem d_z_nearestList_5 : decode M_z_nearestList.2.1 5 = .ok (.aload_n 0, 1) := by decide +kernel
theorem d_z_nearestList_6 : decode M_z_nearestList.2.1 6 = .ok (.getfield 31, 3) := by decide +kernel
theorem d_z_nearestList_9 : decode M_z_nearestList.2.1 9 = .ok (.aload_n 1, 1) := by decide +kernel
theorem d_z_nearestList_10 : decode M_z_nearestList.2.1 10 = .ok (.iconst 0, 1) := by decide +kernel
theorem d_z_nearestList_11 : decode M_z_nearestList.2.1 11 = .ok (.iconst 4, 1) := by decide +kernel
theorem d_z_nearestList_12 : decode M_z_nearestList.2.1 12 = .ok (.invokestatic 45, 3) := by decide +kernel
theorem d_z_nearestList_15 : decode M_z_nearestList.2.1 15 = .ok (.ireturn, 1) := by decide +kernel
theorem d_q_subtract_0 : decode M_q_subtract.2.1 0 = .ok (.iconst 0, 1) := by decide +kernel
theorem d_q_subtract_1 : decode M_q_subtract.2.1 1 = .ok (.istore_n 3, 1) := by decide +kernel
theorem d_q_subtract_2 : decode M_q_subtract.2.1 2 = .ok (.iload_n 3, 1) := by decide +kernel
theorem d_q_subtract_3 : decode M_q_subtract.2.1 3 = .ok (.iconst 4, 1) := by decide +kernel
theorem d_q_subtract_4 : decode M_q_subtract.2.1 4 = .ok (.if_icmp .ge 19, 3) := by decide +kernel
theorem d_q_subtract_7 : decode M_q_subtract.2.1 7 = .ok (.aload_n 2, 1) := by decide +kernel
theorem d_q_subtract_8 : decode M_q_subtract.2.1 8 = .ok (.iload_n 3, 1) := by decide +kernel
theorem d_q_subtract_9 : decode M_q_subtract.2.1 9 = .ok (.aload_n 0, 1) := by decide +kernel
theorem d_q_subtract_10 : decode M_q_subtract.2.1 10 = .ok (.iload_n 3, 1) := by decide +kernel
theorem d_q_subtract_11 : decode M_q_subtract.2.1 11 = .ok (.iaload, 1) := by decide +kernel
theorem d_q_subtract_12 : decode M_q_subtract.2.1 12 = .ok (.aload_n 1, 1) := by decide +kernel
theorem d_q_subtract_13 : decode M_q_subtract.2.1 13 = .ok (.iload_n 3, 1) := by decide +kernel
theorem d_q_subtract_14 : decode M_q_subtract.2.1 14 = .ok (.iaload, 1) := by decide +kernel
theorem d_q_subtract_15 : decode M_q_subtract.2.1 15 = .ok (.isub, 1) := by decide +kernel
theorem d_q_subtract_16 : decode M_q_subtract.2.1 16 = .ok (.iastore, 1) := by decide +kernel
theorem d_q_subtract_17 : decode M_q_subtract.2.1 17 = .ok (.iinc 3 1, 3) := by decide +kernel
theorem d_q_subtract_20 : decode M_q_subtract.2.1 20 = .ok (.goto (-18), 3) := by decide +kernel
theorem d_q_subtract_23 : decode M_q_subtract.2.1 23 = .ok (.return_, 1) := by decide +kernel
theorem d_q_learnWords_0 : decode M_q_learnWords.2.1 0 = .ok (.aload_n 0, 1) := by decide +kernel
theorem d_q_learnWords_1 : decode M_q_learnWords.2.1 1 = .ok (.getfield 33, 3) := by decide +kernel
theorem d_q_learnWords_4 : decode M_q_learnWords.2.1 4 = .ok (.getfield 118, 3) := by decide +kernel
theorem d_q_learnWords_7 : decode M_q_learnWords.2.1 7 = .ok (.invokestatic 121, 3) := by decide +kernel
theorem d_q_learnWords_10 : decode M_q_learnWords.2.1 10 = .ok (.istore_n 2, 1) := by decide +kernel
theorem d_q_learnWords_11 : decode M_q_learnWords.2.1 11 = .ok (.iconst 0, 1) := by decide +kernel
theorem d_q_learnWords_12 : decode M_q_learnWords.2.1 12 = .ok (.istore_n 3, 1) := by decide +kernel
theorem d_q_learnWords_13 : decode M_q_learnWords.2.1 13 = .ok (.iload_n 3, 1) := by decide +kernel
theorem d_q_learnWords_14 : decode M_q_learnWords.2.1 14 = .ok (.aload_n 0, 1) := by decide +kernel
theorem d_q_learnWords_15 : decode M_q_learnWords.2.1 15 = .ok (.getfield 33, 3) := by decide +kernel
theorem d_q_learnWords_18 : decode M_q_learnWords.2.1 18 = .ok (.getfield 118, 3) := by decide +kernel
theorem d_q_learnWords_21 : decode M_q_learnWords.2.1 21 = .ok (.invokestatic 257, 3) := by decide +kernel
theorem d_q_learnWords_24 : decode M_q_learnWords.2.1 24 = .ok (.if_icmp .ge 84, 3) := by decide +kernel
theorem d_q_learnWords_27 : decode M_q_learnWords.2.1 27 = .ok (.aload_n 0, 1) := by decide +kernel
theorem d_q_learnWords_28 : decode M_q_learnWords.2.1 28 = .ok (.getfield 33, 3) := by decide +kernel
theorem d_q_learnWords_31 : decode M_q_learnWords.2.1 31 = .ok (.getfield 118, 3) := by decide +kernel
theorem d_q_learnWords_34 : decode M_q_learnWords.2.1 34 = .ok (.ifCond .ne 44, 3) := by decide +kernel
theorem d_q_learnWords_37 : decode M_q_learnWords.2.1 37 = .ok (.aload_n 0, 1) := by decide +kernel
theorem d_q_learnWords_38 : decode M_q_learnWords.2.1 38 = .ok (.getfield 26, 3) := by decide +kernel
theorem d_q_learnWords_41 : decode M_q_learnWords.2.1 41 = .ok (.iload_n 3, 1) := by decide +kernel
theorem d_q_learnWords_42 : decode M_q_learnWords.2.1 42 = .ok (.iload_n 2, 1) := by decide +kernel
theorem d_q_learnWords_43 : decode M_q_learnWords.2.1 43 = .ok (.imul, 1) := by decide +kernel
theorem d_q_learnWords_44 : decode M_q_learnWords.2.1 44 = .ok (.iload_n 2, 1) := by decide +kernel
theorem d_q_learnWords_45 : decode M_q_learnWords.2.1 45 = .ok (.aload_n 0, 1) := by decide +kernel
theorem d_q_learnWords_46 : decode M_q_learnWords.2.1 46 = .ok (.getfield 33, 3) := by decide +kernel
theorem d_q_learnWords_49 : decode M_q_learnWords.2.1 49 = .ok (.getfield 260, 3) := by decide +kernel
theorem d_q_learnWords_52 : decode M_q_learnWords.2.1 52 = .ok (.iload_n 1, 1) := by decide +kernel
theorem d_q_learnWords_53 : decode M_q_learnWords.2.1 53 = .ok (.invokevirtual 242, 3) := by decide +kernel
theorem d_q_learnWords_56 : decode M_q_learnWords.2.1 56 = .ok (.aload_n 0, 1) := by decide +kernel
theorem d_q_learnWords_57 : decode M_q_learnWords.2.1 57 = .ok (.getfield 26, 3) := by decide +kernel
theorem d_q_learnWords_60 : decode M_q_learnWords.2.1 60 = .ok (.aload_n 0, 1) := by decide +kernel
theorem d_q_learnWords_61 : decode M_q_learnWords.2.1 61 = .ok (.getfield 33, 3) := by decide +kernel
theorem d_q_learnWords_64 : decode M_q_learnWords.2.1 64 = .ok (.getfield 125, 3) := by decide +kernel
theorem d_q_learnWords_67 : decode M_q_learnWords.2.1 67 = .ok (.iload_n 3, 1) := by decide +kernel
theorem d_q_learnWords_68 : decode M_q_learnWords.2.1 68 = .ok (.iconst 0, 1) := by decide +kernel
theorem d_q_learnWords_69 : decode M_q_learnWords.2.1 69 = .ok (.invokestatic 128, 3) := by decide +kernel
theorem d_q_learnWords_72 : decode M_q_learnWords.2.1 72 = .ok (.invokevirtual 245, 3) := by decide +kernel
theorem d_q_learnWords_75 : decode M_q_learnWords.2.1 75 = .ok (.goto 27, 3) := by decide +kernel
theorem d_q_learnWords_78 : decode M_q_learnWords.2.1 78 = .ok (.aload_n 0, 1) := by decide +kernel
theorem d_q_learnWords_79 : decode M_q_learnWords.2.1 79 = .ok (.getfield 33, 3) := by decide +kernel
theorem d_q_learnWords_82 : decode M_q_learnWords.2.1 82 = .ok (.iload_n 3, 1) := by decide +kernel
theorem d_q_learnWords_83 : decode M_q_learnWords.2.1 83 = .ok (.aload_n 0, 1) := by decide +kernel
theorem d_q_learnWords_84 : decode M_q_learnWords.2.1 84 = .ok (.getfield 26, 3) := by decide +kernel
theorem d_q_learnWords_87 : decode M_q_learnWords.2.1 87 = .ok (.iload_n 3, 1) := by decide +kernel
theorem d_q_learnWords_88 : decode M_q_learnWords.2.1 88 = .ok (.invokevirtual 263, 3) := by decide +kernel
theorem d_q_learnWords_91 : decode M_q_learnWords.2.1 91 = .ok (.aload_n 0, 1) := by decide +kernel
theorem d_q_learnWords_92 : decode M_q_learnWords.2.1 92 = .ok (.getfield 26, 3) := by decide +kernel
theorem d_q_learnWords_95 : decode M_q_learnWords.2.1 95 = .ok (.iload_n 3, 1) := by decide +kernel
theorem d_q_learnWords_96 : decode M_q_learnWords.2.1 96 = .ok (.invokevirtual 266, 3) := by decide +kernel
theorem d_q_learnWords_99 : decode M_q_learnWords.2.1 99 = .ok (.invokevirtual 269, 3) := by decide +kernel
theorem d_q_learnWords_102 : decode M_q_learnWords.2.1 102 = .ok (.iinc 3 1, 3) := by decide +kernel
theorem d_q_learnWords_105 : decode M_q_learnWords.2.1 105 = .ok (.goto (-92), 3) := by decide +kernel
theorem d_q_learnWords_108 : decode M_q_learnWords.2.1 108 = .ok (.return_, 1) := by decide +kernel
theorem d_q_partWidthOf_0 : decode M_q_partWidthOf.2.1 0 = .ok (.iload_n 0, 1) := by decide +kernel
theorem d_q_partWidthOf_1 : decode M_q_partWidthOf.2.1 1 = .ok (.ifCond .ne 5, 3) := by decide +kernel
theorem d_q_partWidthOf_4 : decode M_q_partWidthOf.2.1 4 = .ok (.iconst 2, 1) := by decide +kernel
theorem d_q_partWidthOf_5 : decode M_q_partWidthOf.2.1 5 = .ok (.ireturn, 1) := by decide +kernel
theorem d_q_partWidthOf_6 : decode M_q_partWidthOf.2.1 6 = .ok (.iload_n 0, 1) := by decide +kernel
theorem d_q_partWidthOf_7 : decode M_q_partWidthOf.2.1 7 = .ok (.iconst 1, 1) := by decide +kernel
theorem d_q_partWidthOf_8 : decode M_q_partWidthOf.2.1 8 = .ok (.if_icmp .ne 7, 3) := by decide +kernel
theorem d_q_partWidthOf_11 : decode M_q_partWidthOf.2.1 11 = .ok (.iconst 1, 1) := by decide +kernel
theorem d_q_partWidthOf_12 : decode M_q_partWidthOf.2.1 12 = .ok (.goto 4, 3) := by decide +kernel
theorem d_q_partWidthOf_15 : decode M_q_partWidthOf.2.1 15 = .ok (.iconst 0, 1) := by decide +kernel
theorem d_q_partWidthOf_16 : decode M_q_partWidthOf.2.1 16 = .ok (.ireturn, 1) := by decide +kernel
theorem d_q_partsOf_0 : decode M_q_partsOf.2.1 0 = .ok (.iload_n 0, 1) := by decide +kernel
theorem d_q_partsOf_1 : decode M_q_partsOf.2.1 1 = .ok (.ifCond .ne 5, 3) := by decide +kernel
theorem d_q_partsOf_4 : decode M_q_partsOf.2.1 4 = .ok (.iconst 2, 1) := by decide +kernel
theorem d_q_partsOf_5 : decode M_q_partsOf.2.1 5 = .ok (.ireturn, 1) := by decide +kernel
theorem d_q_partsOf_6 : decode M_q_partsOf.2.1 6 = .ok (.iload_n 0, 1) := by decide +kernel
theorem d_q_partsOf_7 : decode M_q_partsOf.2.1 7 = .ok (.iconst 1, 1) := by decide +kernel
theorem d_q_partsOf_8 : decode M_q_partsOf.2.1 8 = .ok (.if_icmp .ne 7, 3) := by decide +kernel
theorem d_q_partsOf_11 : decode M_q_partsOf.2.1 11 = .ok (.iconst 4, 1) := by decide +kernel
theorem d_q_partsOf_12 : decode M_q_partsOf.2.1 12 = .ok (.goto 4, 3) := by decide +kernel
theorem d_q_partsOf_15 : decode M_q_partsOf.2.1 15 = .ok (.iconst 0, 1) := by decide +kernel
end
section
theorem d_q_partsOf_16 : decode M_q_partsOf.2.1 16 = .ok (.ireturn, 1) := by decide +kernel
theorem d_q_wordRow_0 : decode M_q_wordRow.2.1 0 = .ok (.iload_n 0, 1) := by decide +kernel
theorem d_q_wordRow_1 : decode M_q_wordRow.2.1 1 = .ok (.iconst 4, 1) := by decide +kernel
theorem d_q_wordRow_2 : decode M_q_wordRow.2.1 2 = .ok (.imul, 1) := by decide +kernel
theorem d_q_wordRow_3 : decode M_q_wordRow.2.1 3 = .ok (.iload_n 1, 1) := by decide +kernel
theorem d_q_wordRow_4 : decode M_q_wordRow.2.1 4 = .ok (.iadd, 1) := by decide +kernel
theorem d_q_wordRow_5 : decode M_q_wordRow.2.1 5 = .ok (.ireturn, 1) := by decide +kernel
theorem d_c_least_0 : decode M_c_least.2.1 0 = .ok (.aload_n 0, 1) := by decide +kernel
theorem d_c_least_1 : decode M_c_least.2.1 1 = .ok (.getfield 11, 3) := by decide +kernel
theorem d_c_least_4 : decode M_c_least.2.1 4 = .ok (.iconst 0, 1) := by decide +kernel
theorem d_c_least_5 : decode M_c_least.2.1 5 = .ok (.aaload, 1) := by decide +kernel
theorem d_c_least_6 : decode M_c_least.2.1 6 = .ok (.iload_n 1, 1) := by decide +kernel
theorem d_c_least_7 : decode M_c_least.2.1 7 = .ok (.iaload, 1) := by decide +kernel
theorem d_c_least_8 : decode M_c_least.2.1 8 = .ok (.istore_n 2, 1) := by decide +kernel
theorem d_c_least_9 : decode M_c_least.2.1 9 = .ok (.iconst 1, 1) := by decide +kernel
theorem d_c_least_10 : decode M_c_least.2.1 10 = .ok (.istore_n 3, 1) := by decide +kernel
theorem d_c_least_11 : decode M_c_least.2.1 11 = .ok (.iload_n 3, 1) := by decide +kernel
theorem d_c_least_12 : decode M_c_least.2.1 12 = .ok (.aload_n 0, 1) := by decide +kernel
theorem d_c_least_13 : decode M_c_least.2.1 13 = .ok (.getfield 51, 3) := by decide +kernel
theorem d_c_least_16 : decode M_c_least.2.1 16 = .ok (.if_icmp .ge 22, 3) := by decide +kernel
theorem d_c_least_19 : decode M_c_least.2.1 19 = .ok (.iload_n 2, 1) := by decide +kernel
theorem d_c_least_20 : decode M_c_least.2.1 20 = .ok (.aload_n 0, 1) := by decide +kernel
theorem d_c_least_21 : decode M_c_least.2.1 21 = .ok (.getfield 11, 3) := by decide +kernel
theorem d_c_least_24 : decode M_c_least.2.1 24 = .ok (.iload_n 3, 1) := by decide +kernel
theorem d_c_least_25 : decode M_c_least.2.1 25 = .ok (.aaload, 1) := by decide +kernel
theorem d_c_least_26 : decode M_c_least.2.1 26 = .ok (.iload_n 1, 1) := by decide +kernel
theorem d_c_least_27 : decode M_c_least.2.1 27 = .ok (.iaload, 1) := by decide +kernel
theorem d_c_least_28 : decode M_c_least.2.1 28 = .ok (.invokestatic 54, 3) := by decide +kernel
theorem d_c_least_31 : decode M_c_least.2.1 31 = .ok (.istore_n 2, 1) := by decide +kernel
theorem d_c_least_32 : decode M_c_least.2.1 32 = .ok (.iinc 3 1, 3) := by decide +kernel
theorem d_c_least_35 : decode M_c_least.2.1 35 = .ok (.goto (-24), 3) := by decide +kernel
theorem d_c_least_38 : decode M_c_least.2.1 38 = .ok (.iload_n 2, 1) := by decide +kernel
theorem d_c_least_39 : decode M_c_least.2.1 39 = .ok (.ireturn, 1) := by decide +kernel
theorem d_j_min_0 : decode M_j_min.2.1 0 = .ok (.iload_n 0, 1) := by decide +kernel
theorem d_j_min_1 : decode M_j_min.2.1 1 = .ok (.iload_n 1, 1) := by decide +kernel
theorem d_j_min_2 : decode M_j_min.2.1 2 = .ok (.if_icmp .gt 7, 3) := by decide +kernel
theorem d_j_min_5 : decode M_j_min.2.1 5 = .ok (.iload_n 0, 1) := by decide +kernel
theorem d_j_min_6 : decode M_j_min.2.1 6 = .ok (.goto 4, 3) := by decide +kernel
theorem d_j_min_9 : decode M_j_min.2.1 9 = .ok (.iload_n 1, 1) := by decide +kernel
theorem d_j_min_10 : decode M_j_min.2.1 10 = .ok (.ireturn, 1) := by decide +kernel
theorem d_c_greatest_0 : decode M_c_greatest.2.1 0 = .ok (.aload_n 0, 1) := by decide +kernel
theorem d_c_greatest_1 : decode M_c_greatest.2.1 1 = .ok (.getfield 11, 3) := by decide +kernel
theorem d_c_greatest_4 : decode M_c_greatest.2.1 4 = .ok (.iconst 0, 1) := by decide +kernel
theorem d_c_greatest_5 : decode M_c_greatest.2.1 5 = .ok (.aaload, 1) := by decide +kernel
theorem d_c_greatest_6 : decode M_c_greatest.2.1 6 = .ok (.iload_n 1, 1) := by decide +kernel
theorem d_c_greatest_7 : decode M_c_greatest.2.1 7 = .ok (.iaload, 1) := by decide +kernel
theorem d_c_greatest_8 : decode M_c_greatest.2.1 8 = .ok (.istore_n 2, 1) := by decide +kernel
theorem d_c_greatest_9 : decode M_c_greatest.2.1 9 = .ok (.iconst 1, 1) := by decide +kernel
theorem d_c_greatest_10 : decode M_c_greatest.2.1 10 = .ok (.istore_n 3, 1) := by decide +kernel
theorem d_c_greatest_11 : decode M_c_greatest.2.1 11 = .ok (.iload_n 3, 1) := by decide +kernel
theorem d_c_greatest_12 : decode M_c_greatest.2.1 12 = .ok (.aload_n 0, 1) := by decide +kernel
theorem d_c_greatest_13 : decode M_c_greatest.2.1 13 = .ok (.getfield 51, 3) := by decide +kernel
theorem d_c_greatest_16 : decode M_c_greatest.2.1 16 = .ok (.if_icmp .ge 22, 3) := by decide +kernel
theorem d_c_greatest_19 : decode M_c_greatest.2.1 19 = .ok (.iload_n 2, 1) := by decide +kernel
theorem d_c_greatest_20 : decode M_c_greatest.2.1 20 = .ok (.aload_n 0, 1) := by decide +kernel
theorem d_c_greatest_21 : decode M_c_greatest.2.1 21 = .ok (.getfield 11, 3) := by decide +kernel
theorem d_c_greatest_24 : decode M_c_greatest.2.1 24 = .ok (.iload_n 3, 1) := by decide +kernel
theorem d_c_greatest_25 : decode M_c_greatest.2.1 25 = .ok (.aaload, 1) := by decide +kernel
theorem d_c_greatest_26 : decode M_c_greatest.2.1 26 = .ok (.iload_n 1, 1) := by decide +kernel
theorem d_c_greatest_27 : decode M_c_greatest.2.1 27 = .ok (.iaload, 1) := by decide +kernel
theorem d_c_greatest_28 : decode M_c_greatest.2.1 28 = .ok (.invokestatic 60, 3) := by decide +kernel
theorem d_c_greatest_31 : decode M_c_greatest.2.1 31 = .ok (.istore_n 2, 1) := by decide +kernel
theorem d_c_greatest_32 : decode M_c_greatest.2.1 32 = .ok (.iinc 3 1, 3) := by decide +kernel
theorem d_c_greatest_35 : decode M_c_greatest.2.1 35 = .ok (.goto (-24), 3) := by decide +kernel
theorem d_c_greatest_38 : decode M_c_greatest.2.1 38 = .ok (.iload_n 2, 1) := by decide +kernel
theorem d_c_greatest_39 : decode M_c_greatest.2.1 39 = .ok (.ireturn, 1) := by decide +kernel
theorem d_j_max_0 : decode M_j_max.2.1 0 = .ok (.iload_n 0, 1) := by decide +kernel
theorem d_j_max_1 : decode M_j_max.2.1 1 = .ok (.iload_n 1, 1) := by decide +kernel
theorem d_j_max_2 : decode M_j_max.2.1 2 = .ok (.if_icmp .lt 7, 3) := by decide +kernel
theorem d_j_max_5 : decode M_j_max.2.1 5 = .ok (.iload_n 0, 1) := by decide +kernel
theorem d_j_max_6 : decode M_j_max.2.1 6 = .ok (.goto 4, 3) := by decide +kernel
theorem d_j_max_9 : decode M_j_max.2.1 9 = .ok (.iload_n 1, 1) := by decide +kernel
theorem d_j_max_10 : decode M_j_max.2.1 10 = .ok (.ireturn, 1) := by decide +kernel
theorem d_z_spreadWords_0 : decode M_z_spreadWords.2.1 0 = .ok (.aload_n 0, 1) := by decide +kernel
theorem d_z_spreadWords_1 : decode M_z_spreadWords.2.1 1 = .ok (.getfield 16, 3) := by decide +kernel
theorem d_z_spreadWords_4 : decode M_z_spreadWords.2.1 4 = .ok (.iload_n 1, 1) := by decide +kernel
theorem d_z_spreadWords_5 : decode M_z_spreadWords.2.1 5 = .ok (.iconst 0, 1) := by decide +kernel
theorem d_z_spreadWords_6 : decode M_z_spreadWords.2.1 6 = .ok (.invokestatic 52, 3) := by decide +kernel
theorem d_z_spreadWords_9 : decode M_z_spreadWords.2.1 9 = .ok (.aaload, 1) := by decide +kernel
theorem d_z_spreadWords_10 : decode M_z_spreadWords.2.1 10 = .ok (.iconst 0, 1) := by decide +kernel
theorem d_z_spreadWords_11 : decode M_z_spreadWords.2.1 11 = .ok (.iload_n 2, 1) := by decide +kernel
theorem d_z_spreadWords_12 : decode M_z_spreadWords.2.1 12 = .ok (.iastore, 1) := by decide +kernel
theorem d_z_spreadWords_13 : decode M_z_spreadWords.2.1 13 = .ok (.iconst 1, 1) := by decide +kernel
theorem d_z_spreadWords_14 : decode M_z_spreadWords.2.1 14 = .ok (.istore 4, 2) := by decide +kernel
theorem d_z_spreadWords_16 : decode M_z_spreadWords.2.1 16 = .ok (.iload 4, 2) := by decide +kernel
theorem d_z_spreadWords_18 : decode M_z_spreadWords.2.1 18 = .ok (.aload_n 0, 1) := by decide +kernel
theorem d_z_spreadWords_19 : decode M_z_spreadWords.2.1 19 = .ok (.getfield 34, 3) := by decide +kernel
theorem d_z_spreadWords_22 : decode M_z_spreadWords.2.1 22 = .ok (.if_icmp .ge 37, 3) := by decide +kernel
theorem d_z_spreadWords_25 : decode M_z_spreadWords.2.1 25 = .ok (.aload_n 0, 1) := by decide +kernel
theorem d_z_spreadWords_26 : decode M_z_spreadWords.2.1 26 = .ok (.getfield 16, 3) := by decide +kernel
theorem d_z_spreadWords_29 : decode M_z_spreadWords.2.1 29 = .ok (.iload_n 1, 1) := by decide +kernel
theorem d_z_spreadWords_30 : decode M_z_spreadWords.2.1 30 = .ok (.iload 4, 2) := by decide +kernel
theorem d_z_spreadWords_32 : decode M_z_spreadWords.2.1 32 = .ok (.invokestatic 52, 3) := by decide +kernel
theorem d_z_spreadWords_35 : decode M_z_spreadWords.2.1 35 = .ok (.aaload, 1) := by decide +kernel
theorem d_z_spreadWords_36 : decode M_z_spreadWords.2.1 36 = .ok (.iconst 0, 1) := by decide +kernel
theorem d_z_spreadWords_37 : decode M_z_spreadWords.2.1 37 = .ok (.iload_n 2, 1) := by decide +kernel
theorem d_z_spreadWords_38 : decode M_z_spreadWords.2.1 38 = .ok (.iload_n 3, 1) := by decide +kernel
theorem d_z_spreadWords_39 : decode M_z_spreadWords.2.1 39 = .ok (.iload_n 2, 1) := by decide +kernel
theorem d_z_spreadWords_40 : decode M_z_spreadWords.2.1 40 = .ok (.isub, 1) := by decide +kernel
theorem d_z_spreadWords_41 : decode M_z_spreadWords.2.1 41 = .ok (.iload 4, 2) := by decide +kernel
theorem d_z_spreadWords_43 : decode M_z_spreadWords.2.1 43 = .ok (.imul, 1) := by decide +kernel
theorem d_z_spreadWords_44 : decode M_z_spreadWords.2.1 44 = .ok (.aload_n 0, 1) := by decide +kernel
theorem d_z_spreadWords_45 : decode M_z_spreadWords.2.1 45 = .ok (.getfield 34, 3) := by decide +kernel
theorem d_z_spreadWords_48 : decode M_z_spreadWords.2.1 48 = .ok (.iconst 1, 1) := by decide +kernel
theorem d_z_spreadWords_49 : decode M_z_spreadWords.2.1 49 = .ok (.isub, 1) := by decide +kernel
theorem d_z_spreadWords_50 : decode M_z_spreadWords.2.1 50 = .ok (.idiv, 1) := by decide +kernel
theorem d_z_spreadWords_51 : decode M_z_spreadWords.2.1 51 = .ok (.iadd, 1) := by decide +kernel
theorem d_z_spreadWords_52 : decode M_z_spreadWords.2.1 52 = .ok (.iastore, 1) := by decide +kernel
theorem d_z_spreadWords_53 : decode M_z_spreadWords.2.1 53 = .ok (.iinc 4 1, 3) := by decide +kernel
theorem d_z_spreadWords_56 : decode M_z_spreadWords.2.1 56 = .ok (.goto (-40), 3) := by decide +kernel
theorem d_z_spreadWords_59 : decode M_z_spreadWords.2.1 59 = .ok (.return_, 1) := by decide +kernel
theorem d_q_trainingError_0 : decode M_q_trainingError.2.1 0 = .ok (.iconst 0, 1) := by decide +kernel
theorem d_q_trainingError_1 : decode M_q_trainingError.2.1 1 = .ok (.istore_n 1, 1) := by decide +kernel
theorem d_q_trainingError_2 : decode M_q_trainingError.2.1 2 = .ok (.iconst 0, 1) := by decide +kernel
theorem d_q_trainingError_3 : decode M_q_trainingError.2.1 3 = .ok (.istore_n 2, 1) := by decide +kernel
theorem d_q_trainingError_4 : decode M_q_trainingError.2.1 4 = .ok (.iload_n 2, 1) := by decide +kernel
theorem d_q_trainingError_5 : decode M_q_trainingError.2.1 5 = .ok (.aload_n 0, 1) := by decide +kernel
theorem d_q_trainingError_6 : decode M_q_trainingError.2.1 6 = .ok (.getfield 26, 3) := by decide +kernel
theorem d_q_trainingError_9 : decode M_q_trainingError.2.1 9 = .ok (.getfield 233, 3) := by decide +kernel
theorem d_q_trainingError_12 : decode M_q_trainingError.2.1 12 = .ok (.if_icmp .ge 66, 3) := by decide +kernel
theorem d_q_trainingError_15 : decode M_q_trainingError.2.1 15 = .ok (.aload_n 0, 1) := by decide +kernel
theorem d_q_trainingError_16 : decode M_q_trainingError.2.1 16 = .ok (.getfield 26, 3) := by decide +kernel
theorem d_q_trainingError_19 : decode M_q_trainingError.2.1 19 = .ok (.getfield 236, 3) := by decide +kernel
theorem d_q_trainingError_22 : decode M_q_trainingError.2.1 22 = .ok (.iload_n 2, 1) := by decide +kernel
theorem d_q_trainingError_23 : decode M_q_trainingError.2.1 23 = .ok (.aaload, 1) := by decide +kernel
theorem d_q_trainingError_24 : decode M_q_trainingError.2.1 24 = .ok (.astore_n 3, 1) := by decide +kernel
theorem d_q_trainingError_25 : decode M_q_trainingError.2.1 25 = .ok (.iconst 0, 1) := by decide +kernel
theorem d_q_trainingError_26 : decode M_q_trainingError.2.1 26 = .ok (.istore 4, 2) := by decide +kernel
theorem d_q_trainingError_28 : decode M_q_trainingError.2.1 28 = .ok (.iload 4, 2) := by decide +kernel
theorem d_q_trainingError_30 : decode M_q_trainingError.2.1 30 = .ok (.aload_n 0, 1) := by decide +kernel
theorem d_q_trainingError_31 : decode M_q_trainingError.2.1 31 = .ok (.getfield 33, 3) := by decide +kernel
theorem d_q_trainingError_34 : decode M_q_trainingError.2.1 34 = .ok (.getfield 118, 3) := by decide +kernel
theorem d_q_trainingError_37 : decode M_q_trainingError.2.1 37 = .ok (.invokestatic 257, 3) := by decide +kernel
theorem d_q_trainingError_40 : decode M_q_trainingError.2.1 40 = .ok (.if_icmp .ge 32, 3) := by decide +kernel
theorem d_q_trainingError_43 : decode M_q_trainingError.2.1 43 = .ok (.iload_n 1, 1) := by decide +kernel
theorem d_q_trainingError_44 : decode M_q_trainingError.2.1 44 = .ok (.aload_n 0, 1) := by decide +kernel
theorem d_q_trainingError_45 : decode M_q_trainingError.2.1 45 = .ok (.getfield 33, 3) := by decide +kernel
theorem d_q_trainingError_48 : decode M_q_trainingError.2.1 48 = .ok (.iload 4, 2) := by decide +kernel
theorem d_q_trainingError_50 : decode M_q_trainingError.2.1 50 = .ok (.aload_n 0, 1) := by decide +kernel
theorem d_q_trainingError_51 : decode M_q_trainingError.2.1 51 = .ok (.getfield 33, 3) := by decide +kernel
theorem d_q_trainingError_54 : decode M_q_trainingError.2.1 54 = .ok (.iload 4, 2) := by decide +kernel
theorem d_q_trainingError_56 : decode M_q_trainingError.2.1 56 = .ok (.aload_n 3, 1) := by decide +kernel
theorem d_q_trainingError_57 : decode M_q_trainingError.2.1 57 = .ok (.invokevirtual 272, 3) := by decide +kernel
theorem d_q_trainingError_60 : decode M_q_trainingError.2.1 60 = .ok (.aload_n 3, 1) := by decide +kernel
theorem d_q_trainingError_61 : decode M_q_trainingError.2.1 61 = .ok (.invokevirtual 276, 3) := by decide +kernel
theorem d_q_trainingError_64 : decode M_q_trainingError.2.1 64 = .ok (.iadd, 1) := by decide +kernel
theorem d_q_trainingError_65 : decode M_q_trainingError.2.1 65 = .ok (.istore_n 1, 1) := by decide +kernel
theorem d_q_trainingError_66 : decode M_q_trainingError.2.1 66 = .ok (.iinc 4 1, 3) := by decide +kernel
theorem d_q_trainingError_69 : decode M_q_trainingError.2.1 69 = .ok (.goto (-41), 3) := by decide +kernel
theorem d_q_trainingError_72 : decode M_q_trainingError.2.1 72 = .ok (.iinc 2 1, 3) := by decide +kernel
theorem d_q_trainingError_75 : decode M_q_trainingError.2.1 75 = .ok (.goto (-71), 3) := by decide +kernel
theorem d_q_trainingError_78 : decode M_q_trainingError.2.1 78 = .ok (.iload_n 1, 1) := by decide +kernel
theorem d_q_trainingError_79 : decode M_q_trainingError.2.1 79 = .ok (.ireturn, 1) := by decide +kernel
theorem d_z_nearestWord_0 : decode M_z_nearestWord.2.1 0 = .ok (.aload_n 0, 1) := by decide +kernel
theorem d_z_nearestWord_1 : decode M_z_nearestWord.2.1 1 = .ok (.getfield 27, 3) := by decide +kernel
theorem d_z_nearestWord_4 : decode M_z_nearestWord.2.1 4 = .ok (.invokestatic 49, 3) := by decide +kernel
theorem d_z_nearestWord_7 : decode M_z_nearestWord.2.1 7 = .ok (.istore_n 3, 1) := by decide +kernel
theorem d_z_nearestWord_8 : decode M_z_nearestWord.2.1 8 = .ok (.aload_n 0, 1) := by decide +kernel
theorem d_z_nearestWord_9 : decode M_z_nearestWord.2.1 9 = .ok (.getfield 16, 3) := by decide +kernel
theorem d_z_nearestWord_12 : decode M_z_nearestWord.2.1 12 = .ok (.iload_n 1, 1) := by decide +kernel
theorem d_z_nearestWord_13 : decode M_z_nearestWord.2.1 13 = .ok (.iconst 0, 1) := by decide +kernel
theorem d_z_nearestWord_14 : decode M_z_nearestWord.2.1 14 = .ok (.invokestatic 52, 3) := by decide +kernel
theorem d_z_nearestWord_17 : decode M_z_nearestWord.2.1 17 = .ok (.aload_n 0, 1) := by decide +kernel
theorem d_z_nearestWord_18 : decode M_z_nearestWord.2.1 18 = .ok (.getfield 34, 3) := by decide +kernel
theorem d_z_nearestWord_21 : decode M_z_nearestWord.2.1 21 = .ok (.aload_n 2, 1) := by decide +kernel
theorem d_z_nearestWord_22 : decode M_z_nearestWord.2.1 22 = .ok (.iload_n 1, 1) := by decide +kernel
theorem d_z_nearestWord_23 : decode M_z_nearestWord.2.1 23 = .ok (.iload_n 3, 1) := by decide +kernel
theorem d_z_nearestWord_24 : decode M_z_nearestWord.2.1 24 = .ok (.imul, 1) := by decide +kernel
theorem d_z_nearestWord_25 : decode M_z_nearestWord.2.1 25 = .ok (.iload_n 3, 1) := by decide +kernel
theorem d_z_nearestWord_26 : decode M_z_nearestWord.2.1 26 = .ok (.invokestatic 45, 3) := by decide +kernel
theorem d_z_nearestWord_29 : decode M_z_nearestWord.2.1 29 = .ok (.ireturn, 1) := by decide +kernel
theorem d_z_wordDistance_0 : decode M_z_wordDistance.2.1 0 = .ok (.aload_n 0, 1) := by decide +kernel
theorem d_z_wordDistance_1 : decode M_z_wordDistance.2.1 1 = .ok (.getfield 27, 3) := by decide +kernel
theorem d_z_wordDistance_4 : decode M_z_wordDistance.2.1 4 = .ok (.invokestatic 49, 3) := by decide +kernel
theorem d_z_wordDistance_7 : decode M_z_wordDistance.2.1 7 = .ok (.istore 4, 2) := by decide +kernel
theorem d_z_wordDistance_9 : decode M_z_wordDistance.2.1 9 = .ok (.aload_n 0, 1) := by decide +kernel
theorem d_z_wordDistance_10 : decode M_z_wordDistance.2.1 10 = .ok (.getfield 16, 3) := by decide +kernel
theorem d_z_wordDistance_13 : decode M_z_wordDistance.2.1 13 = .ok (.iload_n 1, 1) := by decide +kernel
theorem d_z_wordDistance_14 : decode M_z_wordDistance.2.1 14 = .ok (.iload_n 2, 1) := by decide +kernel
theorem d_z_wordDistance_15 : decode M_z_wordDistance.2.1 15 = .ok (.invokestatic 52, 3) := by decide +kernel
theorem d_z_wordDistance_18 : decode M_z_wordDistance.2.1 18 = .ok (.aaload, 1) := by decide +kernel
theorem d_z_wordDistance_19 : decode M_z_wordDistance.2.1 19 = .ok (.aload_n 3, 1) := by decide +kernel
theorem d_z_wordDistance_20 : decode M_z_wordDistance.2.1 20 = .ok (.iload_n 1, 1) := by decide +kernel
theorem d_z_wordDistance_21 : decode M_z_wordDistance.2.1 21 = .ok (.iload 4, 2) := by decide +kernel
theorem d_z_wordDistance_23 : decode M_z_wordDistance.2.1 23 = .ok (.imul, 1) := by decide +kernel
theorem d_z_wordDistance_24 : decode M_z_wordDistance.2.1 24 = .ok (.iload 4, 2) := by decide +kernel
theorem d_z_wordDistance_26 : decode M_z_wordDistance.2.1 26 = .ok (.invokestatic 56, 3) := by decide +kernel
theorem d_z_wordDistance_29 : decode M_z_wordDistance.2.1 29 = .ok (.ireturn, 1) := by decide +kernel
theorem d_q_centre_0 : decode M_q_centre.2.1 0 = .ok (.aload_n 0, 1) := by decide +kernel
theorem d_q_centre_1 : decode M_q_centre.2.1 1 = .ok (.getfield 33, 3) := by decide +kernel
theorem d_q_centre_4 : decode M_q_centre.2.1 4 = .ok (.iload_n 1, 1) := by decide +kernel
theorem d_q_centre_5 : decode M_q_centre.2.1 5 = .ok (.invokevirtual 107, 3) := by decide +kernel
theorem d_q_centre_8 : decode M_q_centre.2.1 8 = .ok (.ifCond .eq 12, 3) := by decide +kernel
theorem d_q_centre_11 : decode M_q_centre.2.1 11 = .ok (.iload_n 2, 1) := by decide +kernel
theorem d_q_centre_12 : decode M_q_centre.2.1 12 = .ok (.iconst 0, 1) := by decide +kernel
theorem d_q_centre_13 : decode M_q_centre.2.1 13 = .ok (.iconst 3, 1) := by decide +kernel
theorem d_q_centre_14 : decode M_q_centre.2.1 14 = .ok (.invokestatic 86, 3) := by decide +kernel
theorem d_q_centre_17 : decode M_q_centre.2.1 17 = .ok (.ifCond .ne 7, 3) := by decide +kernel
theorem d_q_centre_20 : decode M_q_centre.2.1 20 = .ok (.sipush (-1000), 3) := by decide +kernel
theorem d_q_centre_23 : decode M_q_centre.2.1 23 = .ok (.ireturn, 1) := by decide +kernel
theorem d_q_centre_24 : decode M_q_centre.2.1 24 = .ok (.aload_n 0, 1) := by decide +kernel
theorem d_q_centre_25 : decode M_q_centre.2.1 25 = .ok (.getfield 33, 3) := by decide +kernel
theorem d_q_centre_28 : decode M_q_centre.2.1 28 = .ok (.getfield 111, 3) := by decide +kernel
theorem d_q_centre_31 : decode M_q_centre.2.1 31 = .ok (.iload_n 1, 1) := by decide +kernel
theorem d_q_centre_32 : decode M_q_centre.2.1 32 = .ok (.aaload, 1) := by decide +kernel
theorem d_q_centre_33 : decode M_q_centre.2.1 33 = .ok (.iload_n 2, 1) := by decide +kernel
theorem d_q_centre_34 : decode M_q_centre.2.1 34 = .ok (.iaload, 1) := by decide +kernel
theorem d_q_centre_35 : decode M_q_centre.2.1 35 = .ok (.ireturn, 1) := by decide +kernel
theorem d_z_hasList_0 : decode M_z_hasList.2.1 0 = .ok (.aload_n 0, 1) := by decide +kernel
theorem d_z_hasList_1 : decode M_z_hasList.2.1 1 = .ok (.getfield 23, 3) := by decide +kernel
theorem d_z_hasList_4 : decode M_z_hasList.2.1 4 = .ok (.ifCond .eq 21, 3) := by decide +kernel
theorem d_z_hasList_7 : decode M_z_hasList.2.1 7 = .ok (.iload_n 1, 1) := by decide +kernel
theorem d_z_hasList_8 : decode M_z_hasList.2.1 8 = .ok (.iconst 0, 1) := by decide +kernel
theorem d_z_hasList_9 : decode M_z_hasList.2.1 9 = .ok (.aload_n 0, 1) := by decide +kernel
theorem d_z_hasList_10 : decode M_z_hasList.2.1 10 = .ok (.getfield 31, 3) := by decide +kernel
theorem d_z_hasList_13 : decode M_z_hasList.2.1 13 = .ok (.iconst 1, 1) := by decide +kernel
theorem d_z_hasList_14 : decode M_z_hasList.2.1 14 = .ok (.isub, 1) := by decide +kernel
theorem d_z_hasList_15 : decode M_z_hasList.2.1 15 = .ok (.invokestatic 37, 3) := by decide +kernel
theorem d_z_hasList_18 : decode M_z_hasList.2.1 18 = .ok (.ifCond .eq 7, 3) := by decide +kernel
theorem d_z_hasList_21 : decode M_z_hasList.2.1 21 = .ok (.iconst 1, 1) := by decide +kernel
theorem d_z_hasList_22 : decode M_z_hasList.2.1 22 = .ok (.goto 4, 3) := by decide +kernel
theorem d_z_hasList_25 : decode M_z_hasList.2.1 25 = .ok (.iconst 0, 1) := by decide +kernel
theorem d_z_hasList_26 : decode M_z_hasList.2.1 26 = .ok (.ireturn, 1) := by decide +kernel
theorem d_q_word_0 : decode M_q_word.2.1 0 = .ok (.aload_n 0, 1) := by decide +kernel
theorem d_q_word_1 : decode M_q_word.2.1 1 = .ok (.getfield 33, 3) := by decide +kernel
theorem d_q_word_4 : decode M_q_word.2.1 4 = .ok (.iload_n 1, 1) := by decide +kernel
theorem d_q_word_5 : decode M_q_word.2.1 5 = .ok (.iload_n 2, 1) := by decide +kernel
theorem d_q_word_6 : decode M_q_word.2.1 6 = .ok (.invokevirtual 114, 3) := by decide +kernel
theorem d_q_word_9 : decode M_q_word.2.1 9 = .ok (.ifCond .eq 23, 3) := by decide +kernel
theorem d_q_word_12 : decode M_q_word.2.1 12 = .ok (.iload_n 3, 1) := by decide +kernel
theorem d_q_word_13 : decode M_q_word.2.1 13 = .ok (.iconst 0, 1) := by decide +kernel
theorem d_q_word_14 : decode M_q_word.2.1 14 = .ok (.aload_n 0, 1) := by decide +kernel
theorem d_q_word_15 : decode M_q_word.2.1 15 = .ok (.getfield 33, 3) := by decide +kernel
theorem d_q_word_18 : decode M_q_word.2.1 18 = .ok (.getfield 118, 3) := by decide +kernel
theorem d_q_word_21 : decode M_q_word.2.1 21 = .ok (.invokestatic 121, 3) := by decide +kernel
theorem d_q_word_24 : decode M_q_word.2.1 24 = .ok (.iconst 1, 1) := by decide +kernel
theorem d_q_word_25 : decode M_q_word.2.1 25 = .ok (.isub, 1) := by decide +kernel
theorem d_q_word_26 : decode M_q_word.2.1 26 = .ok (.invokestatic 86, 3) := by decide +kernel
theorem d_q_word_29 : decode M_q_word.2.1 29 = .ok (.ifCond .ne 7, 3) := by decide +kernel
theorem d_q_word_32 : decode M_q_word.2.1 32 = .ok (.sipush (-1000), 3) := by decide +kernel
theorem d_q_word_35 : decode M_q_word.2.1 35 = .ok (.ireturn, 1) := by decide +kernel
theorem d_q_word_36 : decode M_q_word.2.1 36 = .ok (.aload_n 0, 1) := by decide +kernel
theorem d_q_word_37 : decode M_q_word.2.1 37 = .ok (.getfield 33, 3) := by decide +kernel
theorem d_q_word_40 : decode M_q_word.2.1 40 = .ok (.getfield 125, 3) := by decide +kernel
theorem d_q_word_43 : decode M_q_word.2.1 43 = .ok (.iload_n 1, 1) := by decide +kernel
theorem d_q_word_44 : decode M_q_word.2.1 44 = .ok (.iload_n 2, 1) := by decide +kernel
theorem d_q_word_45 : decode M_q_word.2.1 45 = .ok (.invokestatic 128, 3) := by decide +kernel
theorem d_q_word_48 : decode M_q_word.2.1 48 = .ok (.aaload, 1) := by decide +kernel
theorem d_q_word_49 : decode M_q_word.2.1 49 = .ok (.iload_n 3, 1) := by decide +kernel
theorem d_q_word_50 : decode M_q_word.2.1 50 = .ok (.iaload, 1) := by decide +kernel
theorem d_q_word_51 : decode M_q_word.2.1 51 = .ok (.ireturn, 1) := by decide +kernel
theorem d_z_hasWord_0 : decode M_z_hasWord.2.1 0 = .ok (.aload_n 0, 1) := by decide +kernel
theorem d_z_hasWord_1 : decode M_z_hasWord.2.1 1 = .ok (.getfield 23, 3) := by decide +kernel
theorem d_z_hasWord_4 : decode M_z_hasWord.2.1 4 = .ok (.ifCond .eq 38, 3) := by decide +kernel
theorem d_z_hasWord_7 : decode M_z_hasWord.2.1 7 = .ok (.iload_n 1, 1) := by decide +kernel
theorem d_z_hasWord_8 : decode M_z_hasWord.2.1 8 = .ok (.iconst 0, 1) := by decide +kernel
theorem d_z_hasWord_9 : decode M_z_hasWord.2.1 9 = .ok (.aload_n 0, 1) := by decide +kernel
theorem d_z_hasWord_10 : decode M_z_hasWord.2.1 10 = .ok (.getfield 27, 3) := by decide +kernel
theorem d_z_hasWord_13 : decode M_z_hasWord.2.1 13 = .ok (.invokestatic 41, 3) := by decide +kernel
theorem d_z_hasWord_16 : decode M_z_hasWord.2.1 16 = .ok (.iconst 1, 1) := by decide +kernel
theorem d_z_hasWord_17 : decode M_z_hasWord.2.1 17 = .ok (.isub, 1) := by decide +kernel
theorem d_z_hasWord_18 : decode M_z_hasWord.2.1 18 = .ok (.invokestatic 37, 3) := by decide +kernel
theorem d_z_hasWord_21 : decode M_z_hasWord.2.1 21 = .ok (.ifCond .eq 21, 3) := by decide +kernel
theorem d_z_hasWord_24 : decode M_z_hasWord.2.1 24 = .ok (.iload_n 2, 1) := by decide +kernel
theorem d_z_hasWord_25 : decode M_z_hasWord.2.1 25 = .ok (.iconst 0, 1) := by decide +kernel
theorem d_z_hasWord_26 : decode M_z_hasWord.2.1 26 = .ok (.aload_n 0, 1) := by decide +kernel
theorem d_z_hasWord_27 : decode M_z_hasWord.2.1 27 = .ok (.getfield 34, 3) := by decide +kernel
theorem d_z_hasWord_30 : decode M_z_hasWord.2.1 30 = .ok (.iconst 1, 1) := by decide +kernel
theorem d_z_hasWord_31 : decode M_z_hasWord.2.1 31 = .ok (.isub, 1) := by decide +kernel
theorem d_z_hasWord_32 : decode M_z_hasWord.2.1 32 = .ok (.invokestatic 37, 3) := by decide +kernel
theorem d_z_hasWord_35 : decode M_z_hasWord.2.1 35 = .ok (.ifCond .eq 7, 3) := by decide +kernel
theorem d_z_hasWord_38 : decode M_z_hasWord.2.1 38 = .ok (.iconst 1, 1) := by decide +kernel
theorem d_z_hasWord_39 : decode M_z_hasWord.2.1 39 = .ok (.goto 4, 3) := by decide +kernel
theorem d_z_hasWord_42 : decode M_z_hasWord.2.1 42 = .ok (.iconst 0, 1) := by decide +kernel
theorem d_z_hasWord_43 : decode M_z_hasWord.2.1 43 = .ok (.ireturn, 1) := by decide +kernel
theorem d_q_add_0 : decode M_q_add.2.1 0 = .ok (.aload_n 0, 1) := by decide +kernel
theorem d_q_add_1 : decode M_q_add.2.1 1 = .ok (.getfield 33, 3) := by decide +kernel
theorem d_q_add_4 : decode M_q_add.2.1 4 = .ok (.getfield 62, 3) := by decide +kernel
theorem d_q_add_7 : decode M_q_add.2.1 7 = .ok (.ifCond .ne 5, 3) := by decide +kernel
theorem d_q_add_10 : decode M_q_add.2.1 10 = .ok (.iconst (-1), 1) := by decide +kernel
theorem d_q_add_11 : decode M_q_add.2.1 11 = .ok (.ireturn, 1) := by decide +kernel
theorem d_q_add_12 : decode M_q_add.2.1 12 = .ok (.iload_n 1, 1) := by decide +kernel
theorem d_q_add_13 : decode M_q_add.2.1 13 = .ok (.iconst 0, 1) := by decide +kernel
theorem d_q_add_14 : decode M_q_add.2.1 14 = .ok (.sipush 999, 3) := by decide +kernel
theorem d_q_add_17 : decode M_q_add.2.1 17 = .ok (.invokestatic 86, 3) := by decide +kernel
theorem d_q_add_20 : decode M_q_add.2.1 20 = .ok (.ifCond .ne 6, 3) := by decide +kernel
theorem d_q_add_23 : decode M_q_add.2.1 23 = .ok (.bipush (-2), 2) := by decide +kernel
theorem d_q_add_25 : decode M_q_add.2.1 25 = .ok (.ireturn, 1) := by decide +kernel
theorem d_q_add_26 : decode M_q_add.2.1 26 = .ok (.iload_n 2, 1) := by decide +kernel
theorem d_q_add_27 : decode M_q_add.2.1 27 = .ok (.iload_n 3, 1) := by decide +kernel
theorem d_q_add_28 : decode M_q_add.2.1 28 = .ok (.iload 4, 2) := by decide +kernel
theorem d_q_add_30 : decode M_q_add.2.1 30 = .ok (.iload 5, 2) := by decide +kernel
theorem d_q_add_32 : decode M_q_add.2.1 32 = .ok (.invokestatic 70, 3) := by decide +kernel
theorem d_q_add_35 : decode M_q_add.2.1 35 = .ok (.ifCond .eq 6, 3) := by decide +kernel
theorem d_q_add_38 : decode M_q_add.2.1 38 = .ok (.bipush (-3), 2) := by decide +kernel
theorem d_q_add_40 : decode M_q_add.2.1 40 = .ok (.ireturn, 1) := by decide +kernel
theorem d_q_add_41 : decode M_q_add.2.1 41 = .ok (.aload_n 0, 1) := by decide +kernel
theorem d_q_add_42 : decode M_q_add.2.1 42 = .ok (.getfield 40, 3) := by decide +kernel
theorem d_q_add_45 : decode M_q_add.2.1 45 = .ok (.iload_n 1, 1) := by decide +kernel
theorem d_q_add_46 : decode M_q_add.2.1 46 = .ok (.invokevirtual 132, 3) := by decide +kernel
theorem d_q_add_49 : decode M_q_add.2.1 49 = .ok (.iconst (-1), 1) := by decide +kernel
theorem d_q_add_50 : decode M_q_add.2.1 50 = .ok (.if_icmp .eq 6, 3) := by decide +kernel
theorem d_q_add_53 : decode M_q_add.2.1 53 = .ok (.bipush (-4), 2) := by decide +kernel
theorem d_q_add_55 : decode M_q_add.2.1 55 = .ok (.ireturn, 1) := by decide +kernel
theorem d_q_add_56 : decode M_q_add.2.1 56 = .ok (.aload_n 0, 1) := by decide +kernel
theorem d_q_add_57 : decode M_q_add.2.1 57 = .ok (.getfield 40, 3) := by decide +kernel
theorem d_q_add_60 : decode M_q_add.2.1 60 = .ok (.getfield 85, 3) := by decide +kernel
theorem d_q_add_63 : decode M_q_add.2.1 63 = .ok (.bipush 20, 2) := by decide +kernel
theorem d_q_add_65 : decode M_q_add.2.1 65 = .ok (.if_icmp .lt 6, 3) := by decide +kernel
theorem d_q_add_68 : decode M_q_add.2.1 68 = .ok (.bipush (-5), 2) := by decide +kernel
theorem d_q_add_70 : decode M_q_add.2.1 70 = .ok (.ireturn, 1) := by decide +kernel
theorem d_q_add_71 : decode M_q_add.2.1 71 = .ok (.aload_n 0, 1) := by decide +kernel
theorem d_q_add_72 : decode M_q_add.2.1 72 = .ok (.iload_n 1, 1) := by decide +kernel
theorem d_q_add_73 : decode M_q_add.2.1 73 = .ok (.iload_n 2, 1) := by decide +kernel
theorem d_q_add_74 : decode M_q_add.2.1 74 = .ok (.iload_n 3, 1) := by decide +kernel
theorem d_q_add_75 : decode M_q_add.2.1 75 = .ok (.iload 4, 2) := by decide +kernel
theorem d_q_add_77 : decode M_q_add.2.1 77 = .ok (.iload 5, 2) := by decide +kernel
theorem d_q_add_79 : decode M_q_add.2.1 79 = .ok (.invokevirtual 135, 3) := by decide +kernel
theorem d_q_add_82 : decode M_q_add.2.1 82 = .ok (.ireturn, 1) := by decide +kernel
theorem d_b_placeOf_0 : decode M_b_placeOf.2.1 0 = .ok (.iconst 0, 1) := by decide +kernel
theorem d_b_placeOf_1 : decode M_b_placeOf.2.1 1 = .ok (.istore_n 2, 1) := by decide +kernel
theorem d_b_placeOf_2 : decode M_b_placeOf.2.1 2 = .ok (.iload_n 2, 1) := by decide +kernel
theorem d_b_placeOf_3 : decode M_b_placeOf.2.1 3 = .ok (.aload_n 0, 1) := by decide +kernel
theorem d_b_placeOf_4 : decode M_b_placeOf.2.1 4 = .ok (.getfield 18, 3) := by decide +kernel
theorem d_b_placeOf_7 : decode M_b_placeOf.2.1 7 = .ok (.if_icmp .ge 24, 3) := by decide +kernel
theorem d_b_placeOf_10 : decode M_b_placeOf.2.1 10 = .ok (.aload_n 0, 1) := by decide +kernel
theorem d_b_placeOf_11 : decode M_b_placeOf.2.1 11 = .ok (.getfield 11, 3) := by decide +kernel
theorem d_b_placeOf_14 : decode M_b_placeOf.2.1 14 = .ok (.iload_n 2, 1) := by decide +kernel
theorem d_b_placeOf_15 : decode M_b_placeOf.2.1 15 = .ok (.aaload, 1) := by decide +kernel
theorem d_b_placeOf_16 : decode M_b_placeOf.2.1 16 = .ok (.getfield 22, 3) := by decide +kernel
theorem d_b_placeOf_19 : decode M_b_placeOf.2.1 19 = .ok (.iload_n 1, 1) := by decide +kernel
theorem d_b_placeOf_20 : decode M_b_placeOf.2.1 20 = .ok (.if_icmp .ne 5, 3) := by decide +kernel
theorem d_b_placeOf_23 : decode M_b_placeOf.2.1 23 = .ok (.iload_n 2, 1) := by decide +kernel
theorem d_b_placeOf_24 : decode M_b_placeOf.2.1 24 = .ok (.ireturn, 1) := by decide +kernel
theorem d_b_placeOf_25 : decode M_b_placeOf.2.1 25 = .ok (.iinc 2 1, 3) := by decide +kernel
theorem d_b_placeOf_28 : decode M_b_placeOf.2.1 28 = .ok (.goto (-26), 3) := by decide +kernel
theorem d_b_placeOf_31 : decode M_b_placeOf.2.1 31 = .ok (.iconst (-1), 1) := by decide +kernel
theorem d_b_placeOf_32 : decode M_b_placeOf.2.1 32 = .ok (.ireturn, 1) := by decide +kernel
theorem d_q_putEntry_0 : decode M_q_putEntry.2.1 0 = .ok (.aload_n 0, 1) := by decide +kernel
theorem d_q_putEntry_1 : decode M_q_putEntry.2.1 1 = .ok (.getfield 40, 3) := by decide +kernel
theorem d_q_putEntry_4 : decode M_q_putEntry.2.1 4 = .ok (.getfield 142, 3) := by decide +kernel
theorem d_q_putEntry_7 : decode M_q_putEntry.2.1 7 = .ok (.aload_n 0, 1) := by decide +kernel
theorem d_q_putEntry_8 : decode M_q_putEntry.2.1 8 = .ok (.getfield 40, 3) := by decide +kernel
theorem d_q_putEntry_11 : decode M_q_putEntry.2.1 11 = .ok (.iload_n 1, 1) := by decide +kernel
theorem d_q_putEntry_12 : decode M_q_putEntry.2.1 12 = .ok (.invokevirtual 280, 3) := by decide +kernel
theorem d_q_putEntry_15 : decode M_q_putEntry.2.1 15 = .ok (.aaload, 1) := by decide +kernel
theorem d_q_putEntry_16 : decode M_q_putEntry.2.1 16 = .ok (.astore 6, 2) := by decide +kernel
theorem d_q_putEntry_18 : decode M_q_putEntry.2.1 18 = .ok (.aload 6, 2) := by decide +kernel
theorem d_q_putEntry_20 : decode M_q_putEntry.2.1 20 = .ok (.getfield 283, 3) := by decide +kernel
theorem d_q_putEntry_23 : decode M_q_putEntry.2.1 23 = .ok (.iload_n 2, 1) := by decide +kernel
theorem d_q_putEntry_24 : decode M_q_putEntry.2.1 24 = .ok (.iload_n 3, 1) := by decide +kernel
theorem d_q_putEntry_25 : decode M_q_putEntry.2.1 25 = .ok (.iload 4, 2) := by decide +kernel
theorem d_q_putEntry_27 : decode M_q_putEntry.2.1 27 = .ok (.iload 5, 2) := by decide +kernel
theorem d_q_putEntry_29 : decode M_q_putEntry.2.1 29 = .ok (.invokestatic 81, 3) := by decide +kernel
theorem d_q_putEntry_32 : decode M_q_putEntry.2.1 32 = .ok (.aload_n 0, 1) := by decide +kernel
theorem d_q_putEntry_33 : decode M_q_putEntry.2.1 33 = .ok (.getfield 10, 3) := by decide +kernel
theorem d_q_putEntry_36 : decode M_q_putEntry.2.1 36 = .ok (.aload 6, 2) := by decide +kernel
theorem d_q_putEntry_38 : decode M_q_putEntry.2.1 38 = .ok (.getfield 283, 3) := by decide +kernel
theorem d_q_putEntry_41 : decode M_q_putEntry.2.1 41 = .ok (.aload 6, 2) := by decide +kernel
theorem d_q_putEntry_43 : decode M_q_putEntry.2.1 43 = .ok (.getfield 284, 3) := by decide +kernel
theorem d_q_putEntry_46 : decode M_q_putEntry.2.1 46 = .ok (.invokevirtual 171, 3) := by decide +kernel
theorem d_q_putEntry_49 : decode M_q_putEntry.2.1 49 = .ok (.aload_n 0, 1) := by decide +kernel
theorem d_q_putEntry_50 : decode M_q_putEntry.2.1 50 = .ok (.getfield 33, 3) := by decide +kernel
theorem d_q_putEntry_53 : decode M_q_putEntry.2.1 53 = .ok (.aload 6, 2) := by decide +kernel
theorem d_q_putEntry_55 : decode M_q_putEntry.2.1 55 = .ok (.invokevirtual 287, 3) := by decide +kernel
theorem d_q_putEntry_58 : decode M_q_putEntry.2.1 58 = .ok (.aload 6, 2) := by decide +kernel
theorem d_q_putEntry_60 : decode M_q_putEntry.2.1 60 = .ok (.getfield 146, 3) := by decide +kernel
theorem d_q_putEntry_63 : decode M_q_putEntry.2.1 63 = .ok (.ireturn, 1) := by decide +kernel
theorem d_b_makeRoom_0 : decode M_b_makeRoom.2.1 0 = .ok (.aload_n 0, 1) := by decide +kernel
theorem d_b_makeRoom_1 : decode M_b_makeRoom.2.1 1 = .ok (.getfield 11, 3) := by decide +kernel
theorem d_b_makeRoom_4 : decode M_b_makeRoom.2.1 4 = .ok (.aload_n 0, 1) := by decide +kernel
theorem d_b_makeRoom_5 : decode M_b_makeRoom.2.1 5 = .ok (.getfield 18, 3) := by decide +kernel
theorem d_b_makeRoom_8 : decode M_b_makeRoom.2.1 8 = .ok (.aaload, 1) := by decide +kernel
theorem d_b_makeRoom_9 : decode M_b_makeRoom.2.1 9 = .ok (.astore_n 2, 1) := by decide +kernel
theorem d_b_makeRoom_10 : decode M_b_makeRoom.2.1 10 = .ok (.aload_n 2, 1) := by decide +kernel
theorem d_b_makeRoom_11 : decode M_b_makeRoom.2.1 11 = .ok (.iload_n 1, 1) := by decide +kernel
theorem d_b_makeRoom_12 : decode M_b_makeRoom.2.1 12 = .ok (.putfield 22, 3) := by decide +kernel
theorem d_b_makeRoom_15 : decode M_b_makeRoom.2.1 15 = .ok (.aload_n 0, 1) := by decide +kernel
theorem d_b_makeRoom_16 : decode M_b_makeRoom.2.1 16 = .ok (.getfield 18, 3) := by decide +kernel
theorem d_b_makeRoom_19 : decode M_b_makeRoom.2.1 19 = .ok (.istore_n 3, 1) := by decide +kernel
theorem d_b_makeRoom_20 : decode M_b_makeRoom.2.1 20 = .ok (.iload_n 3, 1) := by decide +kernel
theorem d_b_makeRoom_21 : decode M_b_makeRoom.2.1 21 = .ok (.ifCond .le 38, 3) := by decide +kernel
theorem d_b_makeRoom_24 : decode M_b_makeRoom.2.1 24 = .ok (.aload_n 0, 1) := by decide +kernel
theorem d_b_makeRoom_25 : decode M_b_makeRoom.2.1 25 = .ok (.getfield 11, 3) := by decide +kernel
theorem d_b_makeRoom_28 : decode M_b_makeRoom.2.1 28 = .ok (.iload_n 3, 1) := by decide +kernel
theorem d_b_makeRoom_29 : decode M_b_makeRoom.2.1 29 = .ok (.iconst 1, 1) := by decide +kernel
theorem d_b_makeRoom_30 : decode M_b_makeRoom.2.1 30 = .ok (.isub, 1) := by decide +kernel
theorem d_b_makeRoom_31 : decode M_b_makeRoom.2.1 31 = .ok (.aaload, 1) := by decide +kernel
theorem d_b_makeRoom_32 : decode M_b_makeRoom.2.1 32 = .ok (.getfield 22, 3) := by decide +kernel
theorem d_b_makeRoom_35 : decode M_b_makeRoom.2.1 35 = .ok (.iload_n 1, 1) := by decide +kernel
theorem d_b_makeRoom_36 : decode M_b_makeRoom.2.1 36 = .ok (.if_icmp .le 23, 3) := by decide +kernel
theorem d_b_makeRoom_39 : decode M_b_makeRoom.2.1 39 = .ok (.aload_n 0, 1) := by decide +kernel
theorem d_b_makeRoom_40 : decode M_b_makeRoom.2.1 40 = .ok (.getfield 11, 3) := by decide +kernel
theorem d_b_makeRoom_43 : decode M_b_makeRoom.2.1 43 = .ok (.iload_n 3, 1) := by decide +kernel
theorem d_b_makeRoom_44 : decode M_b_makeRoom.2.1 44 = .ok (.aload_n 0, 1) := by decide +kernel
theorem d_b_makeRoom_45 : decode M_b_makeRoom.2.1 45 = .ok (.getfield 11, 3) := by decide +kernel
theorem d_b_makeRoom_48 : decode M_b_makeRoom.2.1 48 = .ok (.iload_n 3, 1) := by decide +kernel
theorem d_b_makeRoom_49 : decode M_b_makeRoom.2.1 49 = .ok (.iconst 1, 1) := by decide +kernel
theorem d_b_makeRoom_50 : decode M_b_makeRoom.2.1 50 = .ok (.isub, 1) := by decide +kernel
theorem d_b_makeRoom_51 : decode M_b_makeRoom.2.1 51 = .ok (.aaload, 1) := by decide +kernel
theorem d_b_makeRoom_52 : decode M_b_makeRoom.2.1 52 = .ok (.aastore, 1) := by decide +kernel
theorem d_b_makeRoom_53 : decode M_b_makeRoom.2.1 53 = .ok (.iinc 3 (-1), 3) := by decide +kernel
theorem d_b_makeRoom_56 : decode M_b_makeRoom.2.1 56 = .ok (.goto (-36), 3) := by decide +kernel
theorem d_b_makeRoom_59 : decode M_b_makeRoom.2.1 59 = .ok (.aload_n 0, 1) := by decide +kernel
theorem d_b_makeRoom_60 : decode M_b_makeRoom.2.1 60 = .ok (.getfield 11, 3) := by decide +kernel
theorem d_b_makeRoom_63 : decode M_b_makeRoom.2.1 63 = .ok (.iload_n 3, 1) := by decide +kernel
theorem d_b_makeRoom_64 : decode M_b_makeRoom.2.1 64 = .ok (.aload_n 2, 1) := by decide +kernel
theorem d_b_makeRoom_65 : decode M_b_makeRoom.2.1 65 = .ok (.aastore, 1) := by decide +kernel
theorem d_b_makeRoom_66 : decode M_b_makeRoom.2.1 66 = .ok (.aload_n 0, 1) := by decide +kernel
theorem d_b_makeRoom_67 : decode M_b_makeRoom.2.1 67 = .ok (.dup, 1) := by decide +kernel
theorem d_b_makeRoom_68 : decode M_b_makeRoom.2.1 68 = .ok (.getfield 18, 3) := by decide +kernel
theorem d_b_makeRoom_71 : decode M_b_makeRoom.2.1 71 = .ok (.iconst 1, 1) := by decide +kernel
theorem d_b_makeRoom_72 : decode M_b_makeRoom.2.1 72 = .ok (.iadd, 1) := by decide +kernel
theorem d_b_makeRoom_73 : decode M_b_makeRoom.2.1 73 = .ok (.putfield 18, 3) := by decide +kernel
theorem d_b_makeRoom_76 : decode M_b_makeRoom.2.1 76 = .ok (.iload_n 3, 1) := by decide +kernel
theorem d_b_makeRoom_77 : decode M_b_makeRoom.2.1 77 = .ok (.ireturn, 1) := by decide +kernel
theorem d_z_encode_0 : decode M_z_encode.2.1 0 = .ok (.aload_n 1, 1) := by decide +kernel
theorem d_z_encode_1 : decode M_z_encode.2.1 1 = .ok (.aload_n 0, 1) := by decide +kernel
theorem d_z_encode_2 : decode M_z_encode.2.1 2 = .ok (.aload_n 1, 1) := by decide +kernel
theorem d_z_encode_3 : decode M_z_encode.2.1 3 = .ok (.getfield 60, 3) := by decide +kernel
theorem d_z_encode_6 : decode M_z_encode.2.1 6 = .ok (.invokevirtual 65, 3) := by decide +kernel
theorem d_z_encode_9 : decode M_z_encode.2.1 9 = .ok (.putfield 69, 3) := by decide +kernel
theorem d_z_encode_12 : decode M_z_encode.2.1 12 = .ok (.aload_n 1, 1) := by decide +kernel
theorem d_z_encode_13 : decode M_z_encode.2.1 13 = .ok (.getfield 60, 3) := by decide +kernel
theorem d_z_encode_16 : decode M_z_encode.2.1 16 = .ok (.aload_n 0, 1) := by decide +kernel
theorem d_z_encode_17 : decode M_z_encode.2.1 17 = .ok (.getfield 11, 3) := by decide +kernel
theorem d_z_encode_20 : decode M_z_encode.2.1 20 = .ok (.aload_n 1, 1) := by decide +kernel
theorem d_z_encode_21 : decode M_z_encode.2.1 21 = .ok (.getfield 69, 3) := by decide +kernel
theorem d_z_encode_24 : decode M_z_encode.2.1 24 = .ok (.aaload, 1) := by decide +kernel
theorem d_z_encode_25 : decode M_z_encode.2.1 25 = .ok (.aload_n 0, 1) := by decide +kernel
theorem d_z_encode_26 : decode M_z_encode.2.1 26 = .ok (.getfield 19, 3) := by decide +kernel
theorem d_z_encode_29 : decode M_z_encode.2.1 29 = .ok (.invokestatic 72, 3) := by decide +kernel
theorem d_z_encode_32 : decode M_z_encode.2.1 32 = .ok (.iconst 0, 1) := by decide +kernel
theorem d_z_encode_33 : decode M_z_encode.2.1 33 = .ok (.istore_n 2, 1) := by decide +kernel
theorem d_z_encode_34 : decode M_z_encode.2.1 34 = .ok (.iload_n 2, 1) := by decide +kernel
theorem d_z_encode_35 : decode M_z_encode.2.1 35 = .ok (.aload_n 0, 1) := by decide +kernel
theorem d_z_encode_36 : decode M_z_encode.2.1 36 = .ok (.getfield 27, 3) := by decide +kernel
theorem d_z_encode_39 : decode M_z_encode.2.1 39 = .ok (.invokestatic 41, 3) := by decide +kernel
theorem d_z_encode_42 : decode M_z_encode.2.1 42 = .ok (.if_icmp .ge 24, 3) := by decide +kernel
theorem d_z_encode_45 : decode M_z_encode.2.1 45 = .ok (.aload_n 1, 1) := by decide +kernel
theorem d_z_encode_46 : decode M_z_encode.2.1 46 = .ok (.getfield 76, 3) := by decide +kernel
theorem d_z_encode_49 : decode M_z_encode.2.1 49 = .ok (.iload_n 2, 1) := by decide +kernel
theorem d_z_encode_50 : decode M_z_encode.2.1 50 = .ok (.aload_n 0, 1) := by decide +kernel
theorem d_z_encode_51 : decode M_z_encode.2.1 51 = .ok (.iload_n 2, 1) := by decide +kernel
theorem d_z_encode_52 : decode M_z_encode.2.1 52 = .ok (.aload_n 0, 1) := by decide +kernel
theorem d_z_encode_53 : decode M_z_encode.2.1 53 = .ok (.getfield 19, 3) := by decide +kernel
theorem d_z_encode_56 : decode M_z_encode.2.1 56 = .ok (.invokevirtual 79, 3) := by decide +kernel
theorem d_z_encode_59 : decode M_z_encode.2.1 59 = .ok (.iastore, 1) := by decide +kernel
theorem d_z_encode_60 : decode M_z_encode.2.1 60 = .ok (.iinc 2 1, 3) := by decide +kernel
theorem d_z_encode_63 : decode M_z_encode.2.1 63 = .ok (.goto (-29), 3) := by decide +kernel
end
section
theorem d_z_encode_66 : decode M_z_encode.2.1 66 = .ok (.return_, 1) := by decide +kernel
theorem d_q_remove_0 : decode M_q_remove.2.1 0 = .ok (.aload_n 0, 1) := by decide +kernel
theorem d_q_remove_1 : decode M_q_remove.2.1 1 = .ok (.getfield 40, 3) := by decide +kernel
theorem d_q_remove_4 : decode M_q_remove.2.1 4 = .ok (.iload_n 1, 1) := by decide +kernel
theorem d_q_remove_5 : decode M_q_remove.2.1 5 = .ok (.invokevirtual 132, 3) := by decide +kernel
theorem d_q_remove_8 : decode M_q_remove.2.1 8 = .ok (.istore_n 2, 1) := by decide +kernel
theorem d_q_remove_9 : decode M_q_remove.2.1 9 = .ok (.iload_n 2, 1) := by decide +kernel
theorem d_q_remove_10 : decode M_q_remove.2.1 10 = .ok (.iconst (-1), 1) := by decide +kernel
theorem d_q_remove_11 : decode M_q_remove.2.1 11 = .ok (.if_icmp .ne 5, 3) := by decide +kernel
theorem d_q_remove_14 : decode M_q_remove.2.1 14 = .ok (.iconst 0, 1) := by decide +kernel
theorem d_q_remove_15 : decode M_q_remove.2.1 15 = .ok (.ireturn, 1) := by decide +kernel
theorem d_q_remove_16 : decode M_q_remove.2.1 16 = .ok (.aload_n 0, 1) := by decide +kernel
theorem d_q_remove_17 : decode M_q_remove.2.1 17 = .ok (.getfield 40, 3) := by decide +kernel
theorem d_q_remove_20 : decode M_q_remove.2.1 20 = .ok (.iload_n 2, 1) := by decide +kernel
theorem d_q_remove_21 : decode M_q_remove.2.1 21 = .ok (.invokevirtual 139, 3) := by decide +kernel
theorem d_q_remove_24 : decode M_q_remove.2.1 24 = .ok (.iconst 1, 1) := by decide +kernel
theorem d_q_remove_25 : decode M_q_remove.2.1 25 = .ok (.ireturn, 1) := by decide +kernel
theorem d_b_drop_0 : decode M_b_drop.2.1 0 = .ok (.aload_n 0, 1) := by decide +kernel
theorem d_b_drop_1 : decode M_b_drop.2.1 1 = .ok (.getfield 11, 3) := by decide +kernel
theorem d_b_drop_4 : decode M_b_drop.2.1 4 = .ok (.iload_n 1, 1) := by decide +kernel
theorem d_b_drop_5 : decode M_b_drop.2.1 5 = .ok (.aaload, 1) := by decide +kernel
theorem d_b_drop_6 : decode M_b_drop.2.1 6 = .ok (.astore_n 2, 1) := by decide +kernel
theorem d_b_drop_7 : decode M_b_drop.2.1 7 = .ok (.aload_n 0, 1) := by decide +kernel
theorem d_b_drop_8 : decode M_b_drop.2.1 8 = .ok (.dup, 1) := by decide +kernel
theorem d_b_drop_9 : decode M_b_drop.2.1 9 = .ok (.getfield 18, 3) := by decide +kernel
theorem d_b_drop_12 : decode M_b_drop.2.1 12 = .ok (.iconst 1, 1) := by decide +kernel
theorem d_b_drop_13 : decode M_b_drop.2.1 13 = .ok (.isub, 1) := by decide +kernel
theorem d_b_drop_14 : decode M_b_drop.2.1 14 = .ok (.putfield 18, 3) := by decide +kernel
theorem d_b_drop_17 : decode M_b_drop.2.1 17 = .ok (.iload_n 1, 1) := by decide +kernel
theorem d_b_drop_18 : decode M_b_drop.2.1 18 = .ok (.istore_n 3, 1) := by decide +kernel
theorem d_b_drop_19 : decode M_b_drop.2.1 19 = .ok (.iload_n 3, 1) := by decide +kernel
theorem d_b_drop_20 : decode M_b_drop.2.1 20 = .ok (.aload_n 0, 1) := by decide +kernel
theorem d_b_drop_21 : decode M_b_drop.2.1 21 = .ok (.getfield 18, 3) := by decide +kernel
theorem d_b_drop_24 : decode M_b_drop.2.1 24 = .ok (.if_icmp .ge 23, 3) := by decide +kernel
theorem d_b_drop_27 : decode M_b_drop.2.1 27 = .ok (.aload_n 0, 1) := by decide +kernel
theorem d_b_drop_28 : decode M_b_drop.2.1 28 = .ok (.getfield 11, 3) := by decide +kernel
theorem d_b_drop_31 : decode M_b_drop.2.1 31 = .ok (.iload_n 3, 1) := by decide +kernel
theorem d_b_drop_32 : decode M_b_drop.2.1 32 = .ok (.aload_n 0, 1) := by decide +kernel
theorem d_b_drop_33 : decode M_b_drop.2.1 33 = .ok (.getfield 11, 3) := by decide +kernel
theorem d_b_drop_36 : decode M_b_drop.2.1 36 = .ok (.iload_n 3, 1) := by decide +kernel
theorem d_b_drop_37 : decode M_b_drop.2.1 37 = .ok (.iconst 1, 1) := by decide +kernel
theorem d_b_drop_38 : decode M_b_drop.2.1 38 = .ok (.iadd, 1) := by decide +kernel
theorem d_b_drop_39 : decode M_b_drop.2.1 39 = .ok (.aaload, 1) := by decide +kernel
theorem d_b_drop_40 : decode M_b_drop.2.1 40 = .ok (.aastore, 1) := by decide +kernel
theorem d_b_drop_41 : decode M_b_drop.2.1 41 = .ok (.iinc 3 1, 3) := by decide +kernel
theorem d_b_drop_44 : decode M_b_drop.2.1 44 = .ok (.goto (-25), 3) := by decide +kernel
theorem d_b_drop_47 : decode M_b_drop.2.1 47 = .ok (.aload_n 0, 1) := by decide +kernel
theorem d_b_drop_48 : decode M_b_drop.2.1 48 = .ok (.getfield 11, 3) := by decide +kernel
theorem d_b_drop_51 : decode M_b_drop.2.1 51 = .ok (.aload_n 0, 1) := by decide +kernel
theorem d_b_drop_52 : decode M_b_drop.2.1 52 = .ok (.getfield 18, 3) := by decide +kernel
theorem d_b_drop_55 : decode M_b_drop.2.1 55 = .ok (.aload_n 2, 1) := by decide +kernel
theorem d_b_drop_56 : decode M_b_drop.2.1 56 = .ok (.aastore, 1) := by decide +kernel
theorem d_b_drop_57 : decode M_b_drop.2.1 57 = .ok (.return_, 1) := by decide +kernel
theorem d_q_listOf_0 : decode M_q_listOf.2.1 0 = .ok (.aload_n 0, 1) := by decide +kernel
theorem d_q_listOf_1 : decode M_q_listOf.2.1 1 = .ok (.getfield 40, 3) := by decide +kernel
theorem d_q_listOf_4 : decode M_q_listOf.2.1 4 = .ok (.iload_n 1, 1) := by decide +kernel
theorem d_q_listOf_5 : decode M_q_listOf.2.1 5 = .ok (.invokevirtual 132, 3) := by decide +kernel
theorem d_q_listOf_8 : decode M_q_listOf.2.1 8 = .ok (.istore_n 2, 1) := by decide +kernel
theorem d_q_listOf_9 : decode M_q_listOf.2.1 9 = .ok (.iload_n 2, 1) := by decide +kernel
theorem d_q_listOf_10 : decode M_q_listOf.2.1 10 = .ok (.iconst (-1), 1) := by decide +kernel
theorem d_q_listOf_11 : decode M_q_listOf.2.1 11 = .ok (.if_icmp .ne 7, 3) := by decide +kernel
theorem d_q_listOf_14 : decode M_q_listOf.2.1 14 = .ok (.iconst (-1), 1) := by decide +kernel
theorem d_q_listOf_15 : decode M_q_listOf.2.1 15 = .ok (.goto 15, 3) := by decide +kernel
theorem d_q_listOf_18 : decode M_q_listOf.2.1 18 = .ok (.aload_n 0, 1) := by decide +kernel
theorem d_q_listOf_19 : decode M_q_listOf.2.1 19 = .ok (.getfield 40, 3) := by decide +kernel
theorem d_q_listOf_22 : decode M_q_listOf.2.1 22 = .ok (.getfield 142, 3) := by decide +kernel
theorem d_q_listOf_25 : decode M_q_listOf.2.1 25 = .ok (.iload_n 2, 1) := by decide +kernel
theorem d_q_listOf_26 : decode M_q_listOf.2.1 26 = .ok (.aaload, 1) := by decide +kernel
theorem d_q_listOf_27 : decode M_q_listOf.2.1 27 = .ok (.getfield 146, 3) := by decide +kernel
theorem d_q_listOf_30 : decode M_q_listOf.2.1 30 = .ok (.ireturn, 1) := by decide +kernel
theorem d_q_codeOf_0 : decode M_q_codeOf.2.1 0 = .ok (.aload_n 0, 1) := by decide +kernel
theorem d_q_codeOf_1 : decode M_q_codeOf.2.1 1 = .ok (.getfield 40, 3) := by decide +kernel
theorem d_q_codeOf_4 : decode M_q_codeOf.2.1 4 = .ok (.iload_n 1, 1) := by decide +kernel
theorem d_q_codeOf_5 : decode M_q_codeOf.2.1 5 = .ok (.invokevirtual 132, 3) := by decide +kernel
theorem d_q_codeOf_8 : decode M_q_codeOf.2.1 8 = .ok (.istore_n 2, 1) := by decide +kernel
theorem d_q_codeOf_9 : decode M_q_codeOf.2.1 9 = .ok (.iload_n 2, 1) := by decide +kernel
theorem d_q_codeOf_10 : decode M_q_codeOf.2.1 10 = .ok (.iconst (-1), 1) := by decide +kernel
theorem d_q_codeOf_11 : decode M_q_codeOf.2.1 11 = .ok (.if_icmp .ne 7, 3) := by decide +kernel
theorem d_q_codeOf_14 : decode M_q_codeOf.2.1 14 = .ok (.iconst (-1), 1) := by decide +kernel
theorem d_q_codeOf_15 : decode M_q_codeOf.2.1 15 = .ok (.goto 19, 3) := by decide +kernel
theorem d_q_codeOf_18 : decode M_q_codeOf.2.1 18 = .ok (.aload_n 0, 1) := by decide +kernel
theorem d_q_codeOf_19 : decode M_q_codeOf.2.1 19 = .ok (.getfield 33, 3) := by decide +kernel
theorem d_q_codeOf_22 : decode M_q_codeOf.2.1 22 = .ok (.aload_n 0, 1) := by decide +kernel
theorem d_q_codeOf_23 : decode M_q_codeOf.2.1 23 = .ok (.getfield 40, 3) := by decide +kernel
theorem d_q_codeOf_26 : decode M_q_codeOf.2.1 26 = .ok (.getfield 142, 3) := by decide +kernel
theorem d_q_codeOf_29 : decode M_q_codeOf.2.1 29 = .ok (.iload_n 2, 1) := by decide +kernel
theorem d_q_codeOf_30 : decode M_q_codeOf.2.1 30 = .ok (.aaload, 1) := by decide +kernel
theorem d_q_codeOf_31 : decode M_q_codeOf.2.1 31 = .ok (.invokevirtual 151, 3) := by decide +kernel
theorem d_q_codeOf_34 : decode M_q_codeOf.2.1 34 = .ok (.ireturn, 1) := by decide +kernel
theorem d_z_codeAsNumber_0 : decode M_z_codeAsNumber.2.1 0 = .ok (.iconst 0, 1) := by decide +kernel
theorem d_z_codeAsNumber_1 : decode M_z_codeAsNumber.2.1 1 = .ok (.istore_n 2, 1) := by decide +kernel
theorem d_z_codeAsNumber_2 : decode M_z_codeAsNumber.2.1 2 = .ok (.iconst 1, 1) := by decide +kernel
theorem d_z_codeAsNumber_3 : decode M_z_codeAsNumber.2.1 3 = .ok (.istore_n 3, 1) := by decide +kernel
theorem d_z_codeAsNumber_4 : decode M_z_codeAsNumber.2.1 4 = .ok (.iconst 0, 1) := by decide +kernel
theorem d_z_codeAsNumber_5 : decode M_z_codeAsNumber.2.1 5 = .ok (.istore 4, 2) := by decide +kernel
theorem d_z_codeAsNumber_7 : decode M_z_codeAsNumber.2.1 7 = .ok (.iload 4, 2) := by decide +kernel
theorem d_z_codeAsNumber_9 : decode M_z_codeAsNumber.2.1 9 = .ok (.aload_n 0, 1) := by decide +kernel
theorem d_z_codeAsNumber_10 : decode M_z_codeAsNumber.2.1 10 = .ok (.getfield 27, 3) := by decide +kernel
theorem d_z_codeAsNumber_13 : decode M_z_codeAsNumber.2.1 13 = .ok (.invokestatic 41, 3) := by decide +kernel
theorem d_z_codeAsNumber_16 : decode M_z_codeAsNumber.2.1 16 = .ok (.if_icmp .ge 28, 3) := by decide +kernel
theorem d_z_codeAsNumber_19 : decode M_z_codeAsNumber.2.1 19 = .ok (.iload_n 2, 1) := by decide +kernel
theorem d_z_codeAsNumber_20 : decode M_z_codeAsNumber.2.1 20 = .ok (.aload_n 1, 1) := by decide +kernel
theorem d_z_codeAsNumber_21 : decode M_z_codeAsNumber.2.1 21 = .ok (.getfield 76, 3) := by decide +kernel
theorem d_z_codeAsNumber_24 : decode M_z_codeAsNumber.2.1 24 = .ok (.iload 4, 2) := by decide +kernel
theorem d_z_codeAsNumber_26 : decode M_z_codeAsNumber.2.1 26 = .ok (.iaload, 1) := by decide +kernel
theorem d_z_codeAsNumber_27 : decode M_z_codeAsNumber.2.1 27 = .ok (.iload_n 3, 1) := by decide +kernel
theorem d_z_codeAsNumber_28 : decode M_z_codeAsNumber.2.1 28 = .ok (.imul, 1) := by decide +kernel
theorem d_z_codeAsNumber_29 : decode M_z_codeAsNumber.2.1 29 = .ok (.iadd, 1) := by decide +kernel
theorem d_z_codeAsNumber_30 : decode M_z_codeAsNumber.2.1 30 = .ok (.istore_n 2, 1) := by decide +kernel
theorem d_z_codeAsNumber_31 : decode M_z_codeAsNumber.2.1 31 = .ok (.iload_n 3, 1) := by decide +kernel
theorem d_z_codeAsNumber_32 : decode M_z_codeAsNumber.2.1 32 = .ok (.aload_n 0, 1) := by decide +kernel
theorem d_z_codeAsNumber_33 : decode M_z_codeAsNumber.2.1 33 = .ok (.getfield 34, 3) := by decide +kernel
theorem d_z_codeAsNumber_36 : decode M_z_codeAsNumber.2.1 36 = .ok (.imul, 1) := by decide +kernel
theorem d_z_codeAsNumber_37 : decode M_z_codeAsNumber.2.1 37 = .ok (.istore_n 3, 1) := by decide +kernel
theorem d_z_codeAsNumber_38 : decode M_z_codeAsNumber.2.1 38 = .ok (.iinc 4 1, 3) := by decide +kernel
theorem d_z_codeAsNumber_41 : decode M_z_codeAsNumber.2.1 41 = .ok (.goto (-34), 3) := by decide +kernel
theorem d_z_codeAsNumber_44 : decode M_z_codeAsNumber.2.1 44 = .ok (.iload_n 2, 1) := by decide +kernel
theorem d_z_codeAsNumber_45 : decode M_z_codeAsNumber.2.1 45 = .ok (.ireturn, 1) := by decide +kernel
theorem d_q_entries_0 : decode M_q_entries.2.1 0 = .ok (.aload_n 0, 1) := by decide +kernel
theorem d_q_entries_1 : decode M_q_entries.2.1 1 = .ok (.getfield 33, 3) := by decide +kernel
theorem d_q_entries_4 : decode M_q_entries.2.1 4 = .ok (.iload_n 1, 1) := by decide +kernel
theorem d_q_entries_5 : decode M_q_entries.2.1 5 = .ok (.invokevirtual 107, 3) := by decide +kernel
theorem d_q_entries_8 : decode M_q_entries.2.1 8 = .ok (.ifCond .eq 14, 3) := by decide +kernel
theorem d_q_entries_11 : decode M_q_entries.2.1 11 = .ok (.aload_n 0, 1) := by decide +kernel
theorem d_q_entries_12 : decode M_q_entries.2.1 12 = .ok (.getfield 40, 3) := by decide +kernel
theorem d_q_entries_15 : decode M_q_entries.2.1 15 = .ok (.iload_n 1, 1) := by decide +kernel
theorem d_q_entries_16 : decode M_q_entries.2.1 16 = .ok (.invokevirtual 155, 3) := by decide +kernel
theorem d_q_entries_19 : decode M_q_entries.2.1 19 = .ok (.goto 4, 3) := by decide +kernel
theorem d_q_entries_22 : decode M_q_entries.2.1 22 = .ok (.iconst (-1), 1) := by decide +kernel
theorem d_q_entries_23 : decode M_q_entries.2.1 23 = .ok (.ireturn, 1) := by decide +kernel
theorem d_b_countInList_0 : decode M_b_countInList.2.1 0 = .ok (.iconst 0, 1) := by decide +kernel
theorem d_b_countInList_1 : decode M_b_countInList.2.1 1 = .ok (.istore_n 2, 1) := by decide +kernel
theorem d_b_countInList_2 : decode M_b_countInList.2.1 2 = .ok (.iconst 0, 1) := by decide +kernel
theorem d_b_countInList_3 : decode M_b_countInList.2.1 3 = .ok (.istore_n 3, 1) := by decide +kernel
theorem d_b_countInList_4 : decode M_b_countInList.2.1 4 = .ok (.iload_n 3, 1) := by decide +kernel
theorem d_b_countInList_5 : decode M_b_countInList.2.1 5 = .ok (.aload_n 0, 1) := by decide +kernel
theorem d_b_countInList_6 : decode M_b_countInList.2.1 6 = .ok (.getfield 18, 3) := by decide +kernel
theorem d_b_countInList_9 : decode M_b_countInList.2.1 9 = .ok (.if_icmp .ge 25, 3) := by decide +kernel
theorem d_b_countInList_12 : decode M_b_countInList.2.1 12 = .ok (.aload_n 0, 1) := by decide +kernel
theorem d_b_countInList_13 : decode M_b_countInList.2.1 13 = .ok (.getfield 11, 3) := by decide +kernel
theorem d_b_countInList_16 : decode M_b_countInList.2.1 16 = .ok (.iload_n 3, 1) := by decide +kernel
theorem d_b_countInList_17 : decode M_b_countInList.2.1 17 = .ok (.aaload, 1) := by decide +kernel
theorem d_b_countInList_18 : decode M_b_countInList.2.1 18 = .ok (.getfield 25, 3) := by decide +kernel
theorem d_b_countInList_21 : decode M_b_countInList.2.1 21 = .ok (.iload_n 1, 1) := by decide +kernel
theorem d_b_countInList_22 : decode M_b_countInList.2.1 22 = .ok (.if_icmp .ne 6, 3) := by decide +kernel
theorem d_b_countInList_25 : decode M_b_countInList.2.1 25 = .ok (.iinc 2 1, 3) := by decide +kernel
theorem d_b_countInList_28 : decode M_b_countInList.2.1 28 = .ok (.iinc 3 1, 3) := by decide +kernel
theorem d_b_countInList_31 : decode M_b_countInList.2.1 31 = .ok (.goto (-27), 3) := by decide +kernel
theorem d_b_countInList_34 : decode M_b_countInList.2.1 34 = .ok (.iload_n 2, 1) := by decide +kernel
theorem d_b_countInList_35 : decode M_b_countInList.2.1 35 = .ok (.ireturn, 1) := by decide +kernel
theorem d_q_effort_0 : decode M_q_effort.2.1 0 = .ok (.iload_n 1, 1) := by decide +kernel
theorem d_q_effort_1 : decode M_q_effort.2.1 1 = .ok (.iconst 1, 1) := by decide +kernel
theorem d_q_effort_2 : decode M_q_effort.2.1 2 = .ok (.iconst 4, 1) := by decide +kernel
theorem d_q_effort_3 : decode M_q_effort.2.1 3 = .ok (.invokestatic 86, 3) := by decide +kernel
theorem d_q_effort_6 : decode M_q_effort.2.1 6 = .ok (.ifCond .eq 12, 3) := by decide +kernel
theorem d_q_effort_9 : decode M_q_effort.2.1 9 = .ok (.iload_n 2, 1) := by decide +kernel
theorem d_q_effort_10 : decode M_q_effort.2.1 10 = .ok (.iconst 0, 1) := by decide +kernel
theorem d_q_effort_11 : decode M_q_effort.2.1 11 = .ok (.iconst 3, 1) := by decide +kernel
theorem d_q_effort_12 : decode M_q_effort.2.1 12 = .ok (.invokestatic 86, 3) := by decide +kernel
theorem d_q_effort_15 : decode M_q_effort.2.1 15 = .ok (.ifCond .ne 5, 3) := by decide +kernel
theorem d_q_effort_18 : decode M_q_effort.2.1 18 = .ok (.iconst 0, 1) := by decide +kernel
theorem d_q_effort_19 : decode M_q_effort.2.1 19 = .ok (.ireturn, 1) := by decide +kernel
theorem d_q_effort_20 : decode M_q_effort.2.1 20 = .ok (.aload_n 0, 1) := by decide +kernel
theorem d_q_effort_21 : decode M_q_effort.2.1 21 = .ok (.getfield 47, 3) := by decide +kernel
theorem d_q_effort_24 : decode M_q_effort.2.1 24 = .ok (.iload_n 1, 1) := by decide +kernel
theorem d_q_effort_25 : decode M_q_effort.2.1 25 = .ok (.putfield 158, 3) := by decide +kernel
theorem d_q_effort_28 : decode M_q_effort.2.1 28 = .ok (.aload_n 0, 1) := by decide +kernel
theorem d_q_effort_29 : decode M_q_effort.2.1 29 = .ok (.getfield 47, 3) := by decide +kernel
theorem d_q_effort_32 : decode M_q_effort.2.1 32 = .ok (.iload_n 2, 1) := by decide +kernel
theorem d_q_effort_33 : decode M_q_effort.2.1 33 = .ok (.putfield 161, 3) := by decide +kernel
theorem d_q_effort_36 : decode M_q_effort.2.1 36 = .ok (.iconst 1, 1) := by decide +kernel
theorem d_q_effort_37 : decode M_q_effort.2.1 37 = .ok (.ireturn, 1) := by decide +kernel
theorem d_q_search_0 : decode M_q_search.2.1 0 = .ok (.aload_n 0, 1) := by decide +kernel
theorem d_q_search_1 : decode M_q_search.2.1 1 = .ok (.getfield 33, 3) := by decide +kernel
theorem d_q_search_4 : decode M_q_search.2.1 4 = .ok (.getfield 62, 3) := by decide +kernel
theorem d_q_search_7 : decode M_q_search.2.1 7 = .ok (.ifCond .ne 5, 3) := by decide +kernel
theorem d_q_search_10 : decode M_q_search.2.1 10 = .ok (.iconst (-1), 1) := by decide +kernel
theorem d_q_search_11 : decode M_q_search.2.1 11 = .ok (.ireturn, 1) := by decide +kernel
theorem d_q_search_12 : decode M_q_search.2.1 12 = .ok (.iload_n 1, 1) := by decide +kernel
theorem d_q_search_13 : decode M_q_search.2.1 13 = .ok (.iload_n 2, 1) := by decide +kernel
theorem d_q_search_14 : decode M_q_search.2.1 14 = .ok (.iload_n 3, 1) := by decide +kernel
theorem d_q_search_15 : decode M_q_search.2.1 15 = .ok (.iload 4, 2) := by decide +kernel
theorem d_q_search_17 : decode M_q_search.2.1 17 = .ok (.invokestatic 70, 3) := by decide +kernel
theorem d_q_search_20 : decode M_q_search.2.1 20 = .ok (.ifCond .eq 6, 3) := by decide +kernel
theorem d_q_search_23 : decode M_q_search.2.1 23 = .ok (.bipush (-2), 2) := by decide +kernel
theorem d_q_search_25 : decode M_q_search.2.1 25 = .ok (.ireturn, 1) := by decide +kernel
theorem d_q_search_26 : decode M_q_search.2.1 26 = .ok (.iload 5, 2) := by decide +kernel
theorem d_q_search_28 : decode M_q_search.2.1 28 = .ok (.iconst 1, 1) := by decide +kernel
theorem d_q_search_29 : decode M_q_search.2.1 29 = .ok (.bipush 8, 2) := by decide +kernel
theorem d_q_search_31 : decode M_q_search.2.1 31 = .ok (.invokestatic 86, 3) := by decide +kernel
theorem d_q_search_34 : decode M_q_search.2.1 34 = .ok (.ifCond .ne 6, 3) := by decide +kernel
theorem d_q_search_37 : decode M_q_search.2.1 37 = .ok (.bipush (-3), 2) := by decide +kernel
theorem d_q_search_39 : decode M_q_search.2.1 39 = .ok (.ireturn, 1) := by decide +kernel
theorem d_q_search_40 : decode M_q_search.2.1 40 = .ok (.aload_n 0, 1) := by decide +kernel
theorem d_q_search_41 : decode M_q_search.2.1 41 = .ok (.getfield 47, 3) := by decide +kernel
theorem d_q_search_44 : decode M_q_search.2.1 44 = .ok (.getfield 164, 3) := by decide +kernel
theorem d_q_search_47 : decode M_q_search.2.1 47 = .ok (.iload_n 1, 1) := by decide +kernel
theorem d_q_search_48 : decode M_q_search.2.1 48 = .ok (.iload_n 2, 1) := by decide +kernel
theorem d_q_search_49 : decode M_q_search.2.1 49 = .ok (.iload_n 3, 1) := by decide +kernel
theorem d_q_search_50 : decode M_q_search.2.1 50 = .ok (.iload 4, 2) := by decide +kernel
theorem d_q_search_52 : decode M_q_search.2.1 52 = .ok (.invokestatic 81, 3) := by decide +kernel
theorem d_q_search_55 : decode M_q_search.2.1 55 = .ok (.aload_n 0, 1) := by decide +kernel
theorem d_q_search_56 : decode M_q_search.2.1 56 = .ok (.getfield 10, 3) := by decide +kernel
theorem d_q_search_59 : decode M_q_search.2.1 59 = .ok (.aload_n 0, 1) := by decide +kernel
theorem d_q_search_60 : decode M_q_search.2.1 60 = .ok (.getfield 47, 3) := by decide +kernel
theorem d_q_search_63 : decode M_q_search.2.1 63 = .ok (.getfield 164, 3) := by decide +kernel
theorem d_q_search_66 : decode M_q_search.2.1 66 = .ok (.aload_n 0, 1) := by decide +kernel
theorem d_q_search_67 : decode M_q_search.2.1 67 = .ok (.getfield 47, 3) := by decide +kernel
theorem d_q_search_70 : decode M_q_search.2.1 70 = .ok (.getfield 168, 3) := by decide +kernel
theorem d_q_search_73 : decode M_q_search.2.1 73 = .ok (.invokevirtual 171, 3) := by decide +kernel
theorem d_q_search_76 : decode M_q_search.2.1 76 = .ok (.aload_n 0, 1) := by decide +kernel
theorem d_q_search_77 : decode M_q_search.2.1 77 = .ok (.getfield 47, 3) := by decide +kernel
theorem d_q_search_80 : decode M_q_search.2.1 80 = .ok (.aload_n 0, 1) := by decide +kernel
theorem d_q_search_81 : decode M_q_search.2.1 81 = .ok (.getfield 33, 3) := by decide +kernel
theorem d_q_search_84 : decode M_q_search.2.1 84 = .ok (.aload_n 0, 1) := by decide +kernel
theorem d_q_search_85 : decode M_q_search.2.1 85 = .ok (.getfield 40, 3) := by decide +kernel
theorem d_q_search_88 : decode M_q_search.2.1 88 = .ok (.iload 5, 2) := by decide +kernel
theorem d_q_search_90 : decode M_q_search.2.1 90 = .ok (.invokevirtual 175, 3) := by decide +kernel
theorem d_q_search_93 : decode M_q_search.2.1 93 = .ok (.aload_n 0, 1) := by decide +kernel
theorem d_q_search_94 : decode M_q_search.2.1 94 = .ok (.getfield 47, 3) := by decide +kernel
theorem d_q_search_97 : decode M_q_search.2.1 97 = .ok (.getfield 179, 3) := by decide +kernel
theorem d_q_search_100 : decode M_q_search.2.1 100 = .ok (.ireturn, 1) := by decide +kernel
theorem d_f_find_0 : decode M_f_find.2.1 0 = .ok (.aload_n 0, 1) := by decide +kernel
theorem d_f_find_1 : decode M_f_find.2.1 1 = .ok (.aload_n 1, 1) := by decide +kernel
theorem d_f_find_2 : decode M_f_find.2.1 2 = .ok (.aload_n 2, 1) := by decide +kernel
theorem d_f_find_3 : decode M_f_find.2.1 3 = .ok (.invokevirtual 41, 3) := by decide +kernel
theorem d_f_find_6 : decode M_f_find.2.1 6 = .ok (.aload_n 0, 1) := by decide +kernel
theorem d_f_find_7 : decode M_f_find.2.1 7 = .ok (.aload_n 0, 1) := by decide +kernel
theorem d_f_find_8 : decode M_f_find.2.1 8 = .ok (.getfield 45, 3) := by decide +kernel
theorem d_f_find_11 : decode M_f_find.2.1 11 = .ok (.invokevirtual 48, 3) := by decide +kernel
theorem d_f_find_14 : decode M_f_find.2.1 14 = .ok (.aload_n 0, 1) := by decide +kernel
theorem d_f_find_15 : decode M_f_find.2.1 15 = .ok (.getfield 31, 3) := by decide +kernel
theorem d_f_find_18 : decode M_f_find.2.1 18 = .ok (.ifCond .le 31, 3) := by decide +kernel
theorem d_f_find_21 : decode M_f_find.2.1 21 = .ok (.iload_n 3, 1) := by decide +kernel
theorem d_f_find_22 : decode M_f_find.2.1 22 = .ok (.aload_n 0, 1) := by decide +kernel
theorem d_f_find_23 : decode M_f_find.2.1 23 = .ok (.getfield 31, 3) := by decide +kernel
theorem d_f_find_26 : decode M_f_find.2.1 26 = .ok (.imul, 1) := by decide +kernel
theorem d_f_find_27 : decode M_f_find.2.1 27 = .ok (.aload_n 0, 1) := by decide +kernel
theorem d_f_find_28 : decode M_f_find.2.1 28 = .ok (.getfield 45, 3) := by decide +kernel
theorem d_f_find_31 : decode M_f_find.2.1 31 = .ok (.invokestatic 52, 3) := by decide +kernel
theorem d_f_find_34 : decode M_f_find.2.1 34 = .ok (.istore 4, 2) := by decide +kernel
theorem d_f_find_36 : decode M_f_find.2.1 36 = .ok (.aload_n 0, 1) := by decide +kernel
theorem d_f_find_37 : decode M_f_find.2.1 37 = .ok (.aload_n 2, 1) := by decide +kernel
theorem d_f_find_38 : decode M_f_find.2.1 38 = .ok (.iload 4, 2) := by decide +kernel
theorem d_f_find_40 : decode M_f_find.2.1 40 = .ok (.invokevirtual 58, 3) := by decide +kernel
theorem d_f_find_43 : decode M_f_find.2.1 43 = .ok (.aload_n 0, 1) := by decide +kernel
theorem d_f_find_44 : decode M_f_find.2.1 44 = .ok (.iload 4, 2) := by decide +kernel
theorem d_f_find_46 : decode M_f_find.2.1 46 = .ok (.invokevirtual 48, 3) := by decide +kernel
theorem d_f_find_49 : decode M_f_find.2.1 49 = .ok (.aload_n 0, 1) := by decide +kernel
theorem d_f_find_50 : decode M_f_find.2.1 50 = .ok (.iload_n 3, 1) := by decide +kernel
theorem d_f_find_51 : decode M_f_find.2.1 51 = .ok (.aload_n 0, 1) := by decide +kernel
theorem d_f_find_52 : decode M_f_find.2.1 52 = .ok (.getfield 45, 3) := by decide +kernel
theorem d_f_find_55 : decode M_f_find.2.1 55 = .ok (.invokestatic 52, 3) := by decide +kernel
theorem d_f_find_58 : decode M_f_find.2.1 58 = .ok (.putfield 34, 3) := by decide +kernel
theorem d_f_find_61 : decode M_f_find.2.1 61 = .ok (.aload_n 0, 1) := by decide +kernel
theorem d_f_find_62 : decode M_f_find.2.1 62 = .ok (.aload_n 2, 1) := by decide +kernel
theorem d_f_find_63 : decode M_f_find.2.1 63 = .ok (.invokevirtual 62, 3) := by decide +kernel
theorem d_f_find_66 : decode M_f_find.2.1 66 = .ok (.return_, 1) := by decide +kernel
theorem d_f_lookThrough_0 : decode M_f_lookThrough.2.1 0 = .ok (.aload_n 0, 1) := by decide +kernel
theorem d_f_lookThrough_1 : decode M_f_lookThrough.2.1 1 = .ok (.iconst 0, 1) := by decide +kernel
theorem d_f_lookThrough_2 : decode M_f_lookThrough.2.1 2 = .ok (.putfield 45, 3) := by decide +kernel
theorem d_f_lookThrough_5 : decode M_f_lookThrough.2.1 5 = .ok (.iconst 0, 1) := by decide +kernel
theorem d_f_lookThrough_6 : decode M_f_lookThrough.2.1 6 = .ok (.istore_n 3, 1) := by decide +kernel
theorem d_f_lookThrough_7 : decode M_f_lookThrough.2.1 7 = .ok (.iload_n 3, 1) := by decide +kernel
theorem d_f_lookThrough_8 : decode M_f_lookThrough.2.1 8 = .ok (.aload_n 2, 1) := by decide +kernel
theorem d_f_lookThrough_9 : decode M_f_lookThrough.2.1 9 = .ok (.getfield 66, 3) := by decide +kernel
theorem d_f_lookThrough_12 : decode M_f_lookThrough.2.1 12 = .ok (.if_icmp .ge 76, 3) := by decide +kernel
theorem d_f_lookThrough_15 : decode M_f_lookThrough.2.1 15 = .ok (.aload_n 2, 1) := by decide +kernel
theorem d_f_lookThrough_16 : decode M_f_lookThrough.2.1 16 = .ok (.getfield 71, 3) := by decide +kernel
theorem d_f_lookThrough_19 : decode M_f_lookThrough.2.1 19 = .ok (.iload_n 3, 1) := by decide +kernel
theorem d_f_lookThrough_20 : decode M_f_lookThrough.2.1 20 = .ok (.aaload, 1) := by decide +kernel
theorem d_f_lookThrough_21 : decode M_f_lookThrough.2.1 21 = .ok (.astore 4, 2) := by decide +kernel
theorem d_f_lookThrough_23 : decode M_f_lookThrough.2.1 23 = .ok (.aload_n 1, 1) := by decide +kernel
theorem d_f_lookThrough_24 : decode M_f_lookThrough.2.1 24 = .ok (.aload 4, 2) := by decide +kernel
theorem d_f_lookThrough_26 : decode M_f_lookThrough.2.1 26 = .ok (.getfield 75, 3) := by decide +kernel
theorem d_f_lookThrough_29 : decode M_f_lookThrough.2.1 29 = .ok (.aload_n 0, 1) := by decide +kernel
theorem d_f_lookThrough_30 : decode M_f_lookThrough.2.1 30 = .ok (.getfield 15, 3) := by decide +kernel
theorem d_f_lookThrough_33 : decode M_f_lookThrough.2.1 33 = .ok (.invokevirtual 80, 3) := by decide +kernel
theorem d_f_lookThrough_36 : decode M_f_lookThrough.2.1 36 = .ok (.aload_n 0, 1) := by decide +kernel
theorem d_f_lookThrough_37 : decode M_f_lookThrough.2.1 37 = .ok (.getfield 27, 3) := by decide +kernel
theorem d_f_lookThrough_40 : decode M_f_lookThrough.2.1 40 = .ok (.if_icmp .ge 42, 3) := by decide +kernel
theorem d_f_lookThrough_43 : decode M_f_lookThrough.2.1 43 = .ok (.aload_n 0, 1) := by decide +kernel
theorem d_f_lookThrough_44 : decode M_f_lookThrough.2.1 44 = .ok (.getfield 18, 3) := by decide +kernel
theorem d_f_lookThrough_47 : decode M_f_lookThrough.2.1 47 = .ok (.aload_n 0, 1) := by decide +kernel
theorem d_f_lookThrough_48 : decode M_f_lookThrough.2.1 48 = .ok (.getfield 45, 3) := by decide +kernel
theorem d_f_lookThrough_51 : decode M_f_lookThrough.2.1 51 = .ok (.iload_n 3, 1) := by decide +kernel
theorem d_f_lookThrough_52 : decode M_f_lookThrough.2.1 52 = .ok (.iastore, 1) := by decide +kernel
theorem d_f_lookThrough_53 : decode M_f_lookThrough.2.1 53 = .ok (.aload_n 0, 1) := by decide +kernel
theorem d_f_lookThrough_54 : decode M_f_lookThrough.2.1 54 = .ok (.getfield 21, 3) := by decide +kernel
theorem d_f_lookThrough_57 : decode M_f_lookThrough.2.1 57 = .ok (.aload_n 0, 1) := by decide +kernel
theorem d_f_lookThrough_58 : decode M_f_lookThrough.2.1 58 = .ok (.getfield 45, 3) := by decide +kernel
theorem d_f_lookThrough_61 : decode M_f_lookThrough.2.1 61 = .ok (.aload_n 1, 1) := by decide +kernel
theorem d_f_lookThrough_62 : decode M_f_lookThrough.2.1 62 = .ok (.aload_n 0, 1) := by decide +kernel
theorem d_f_lookThrough_63 : decode M_f_lookThrough.2.1 63 = .ok (.getfield 15, 3) := by decide +kernel
theorem d_f_lookThrough_66 : decode M_f_lookThrough.2.1 66 = .ok (.aload 4, 2) := by decide +kernel
theorem d_f_lookThrough_68 : decode M_f_lookThrough.2.1 68 = .ok (.invokevirtual 86, 3) := by decide +kernel
theorem d_f_lookThrough_71 : decode M_f_lookThrough.2.1 71 = .ok (.iastore, 1) := by decide +kernel
theorem d_f_lookThrough_72 : decode M_f_lookThrough.2.1 72 = .ok (.aload_n 0, 1) := by decide +kernel
theorem d_f_lookThrough_73 : decode M_f_lookThrough.2.1 73 = .ok (.dup, 1) := by decide +kernel
theorem d_f_lookThrough_74 : decode M_f_lookThrough.2.1 74 = .ok (.getfield 45, 3) := by decide +kernel
theorem d_f_lookThrough_77 : decode M_f_lookThrough.2.1 77 = .ok (.iconst 1, 1) := by decide +kernel
theorem d_f_lookThrough_78 : decode M_f_lookThrough.2.1 78 = .ok (.iadd, 1) := by decide +kernel
theorem d_f_lookThrough_79 : decode M_f_lookThrough.2.1 79 = .ok (.putfield 45, 3) := by decide +kernel
theorem d_f_lookThrough_82 : decode M_f_lookThrough.2.1 82 = .ok (.iinc 3 1, 3) := by decide +kernel
theorem d_f_lookThrough_85 : decode M_f_lookThrough.2.1 85 = .ok (.goto (-78), 3) := by decide +kernel
theorem d_f_lookThrough_88 : decode M_f_lookThrough.2.1 88 = .ok (.return_, 1) := by decide +kernel
theorem d_z_listsBefore_0 : decode M_z_listsBefore.2.1 0 = .ok (.aload_n 0, 1) := by decide +kernel
theorem d_z_listsBefore_1 : decode M_z_listsBefore.2.1 1 = .ok (.getfield 11, 3) := by decide +kernel
theorem d_z_listsBefore_4 : decode M_z_listsBefore.2.1 4 = .ok (.iload_n 1, 1) := by decide +kernel
theorem d_z_listsBefore_5 : decode M_z_listsBefore.2.1 5 = .ok (.aaload, 1) := by decide +kernel
theorem d_z_listsBefore_6 : decode M_z_listsBefore.2.1 6 = .ok (.aload_n 2, 1) := by decide +kernel
theorem d_z_listsBefore_7 : decode M_z_listsBefore.2.1 7 = .ok (.iconst 0, 1) := by decide +kernel
theorem d_z_listsBefore_8 : decode M_z_listsBefore.2.1 8 = .ok (.iconst 4, 1) := by decide +kernel
theorem d_z_listsBefore_9 : decode M_z_listsBefore.2.1 9 = .ok (.invokestatic 56, 3) := by decide +kernel
theorem d_z_listsBefore_12 : decode M_z_listsBefore.2.1 12 = .ok (.istore_n 3, 1) := by decide +kernel
theorem d_z_listsBefore_13 : decode M_z_listsBefore.2.1 13 = .ok (.iconst 0, 1) := by decide +kernel
theorem d_z_listsBefore_14 : decode M_z_listsBefore.2.1 14 = .ok (.istore 4, 2) := by decide +kernel
theorem d_z_listsBefore_16 : decode M_z_listsBefore.2.1 16 = .ok (.iconst 0, 1) := by decide +kernel
theorem d_z_listsBefore_17 : decode M_z_listsBefore.2.1 17 = .ok (.istore 5, 2) := by decide +kernel
theorem d_z_listsBefore_19 : decode M_z_listsBefore.2.1 19 = .ok (.iload 5, 2) := by decide +kernel
theorem d_z_listsBefore_21 : decode M_z_listsBefore.2.1 21 = .ok (.aload_n 0, 1) := by decide +kernel
theorem d_z_listsBefore_22 : decode M_z_listsBefore.2.1 22 = .ok (.getfield 31, 3) := by decide +kernel
theorem d_z_listsBefore_25 : decode M_z_listsBefore.2.1 25 = .ok (.if_icmp .ge 45, 3) := by decide +kernel
theorem d_z_listsBefore_28 : decode M_z_listsBefore.2.1 28 = .ok (.aload_n 0, 1) := by decide +kernel
theorem d_z_listsBefore_29 : decode M_z_listsBefore.2.1 29 = .ok (.getfield 11, 3) := by decide +kernel
theorem d_z_listsBefore_32 : decode M_z_listsBefore.2.1 32 = .ok (.iload 5, 2) := by decide +kernel
theorem d_z_listsBefore_34 : decode M_z_listsBefore.2.1 34 = .ok (.aaload, 1) := by decide +kernel
theorem d_z_listsBefore_35 : decode M_z_listsBefore.2.1 35 = .ok (.aload_n 2, 1) := by decide +kernel
theorem d_z_listsBefore_36 : decode M_z_listsBefore.2.1 36 = .ok (.iconst 0, 1) := by decide +kernel
theorem d_z_listsBefore_37 : decode M_z_listsBefore.2.1 37 = .ok (.iconst 4, 1) := by decide +kernel
theorem d_z_listsBefore_38 : decode M_z_listsBefore.2.1 38 = .ok (.invokestatic 56, 3) := by decide +kernel
theorem d_z_listsBefore_41 : decode M_z_listsBefore.2.1 41 = .ok (.istore 6, 2) := by decide +kernel
theorem d_z_listsBefore_43 : decode M_z_listsBefore.2.1 43 = .ok (.iload 6, 2) := by decide +kernel
theorem d_z_listsBefore_45 : decode M_z_listsBefore.2.1 45 = .ok (.iload_n 3, 1) := by decide +kernel
theorem d_z_listsBefore_46 : decode M_z_listsBefore.2.1 46 = .ok (.if_icmp .lt 15, 3) := by decide +kernel
theorem d_z_listsBefore_49 : decode M_z_listsBefore.2.1 49 = .ok (.iload 6, 2) := by decide +kernel
theorem d_z_listsBefore_51 : decode M_z_listsBefore.2.1 51 = .ok (.iload_n 3, 1) := by decide +kernel
theorem d_z_listsBefore_52 : decode M_z_listsBefore.2.1 52 = .ok (.if_icmp .ne 12, 3) := by decide +kernel
theorem d_z_listsBefore_55 : decode M_z_listsBefore.2.1 55 = .ok (.iload 5, 2) := by decide +kernel
theorem d_z_listsBefore_57 : decode M_z_listsBefore.2.1 57 = .ok (.iload_n 1, 1) := by decide +kernel
theorem d_z_listsBefore_58 : decode M_z_listsBefore.2.1 58 = .ok (.if_icmp .ge 6, 3) := by decide +kernel
theorem d_z_listsBefore_61 : decode M_z_listsBefore.2.1 61 = .ok (.iinc 4 1, 3) := by decide +kernel
theorem d_z_listsBefore_64 : decode M_z_listsBefore.2.1 64 = .ok (.iinc 5 1, 3) := by decide +kernel
theorem d_z_listsBefore_67 : decode M_z_listsBefore.2.1 67 = .ok (.goto (-48), 3) := by decide +kernel
theorem d_z_listsBefore_70 : decode M_z_listsBefore.2.1 70 = .ok (.iload 4, 2) := by decide +kernel
theorem d_z_listsBefore_72 : decode M_z_listsBefore.2.1 72 = .ok (.ireturn, 1) := by decide +kernel
theorem d_z_codeDistance_0 : decode M_z_codeDistance.2.1 0 = .ok (.aload_n 0, 1) := by decide +kernel
theorem d_z_codeDistance_1 : decode M_z_codeDistance.2.1 1 = .ok (.getfield 27, 3) := by decide +kernel
theorem d_z_codeDistance_4 : decode M_z_codeDistance.2.1 4 = .ok (.iconst 2, 1) := by decide +kernel
theorem d_z_codeDistance_5 : decode M_z_codeDistance.2.1 5 = .ok (.if_icmp .ne 14, 3) := by decide +kernel
theorem d_z_codeDistance_8 : decode M_z_codeDistance.2.1 8 = .ok (.aload_n 1, 1) := by decide +kernel
theorem d_z_codeDistance_9 : decode M_z_codeDistance.2.1 9 = .ok (.aload_n 2, 1) := by decide +kernel
theorem d_z_codeDistance_10 : decode M_z_codeDistance.2.1 10 = .ok (.getfield 60, 3) := by decide +kernel
theorem d_z_codeDistance_13 : decode M_z_codeDistance.2.1 13 = .ok (.iconst 0, 1) := by decide +kernel
theorem d_z_codeDistance_14 : decode M_z_codeDistance.2.1 14 = .ok (.iconst 4, 1) := by decide +kernel
theorem d_z_codeDistance_15 : decode M_z_codeDistance.2.1 15 = .ok (.invokestatic 56, 3) := by decide +kernel
theorem d_z_codeDistance_18 : decode M_z_codeDistance.2.1 18 = .ok (.ireturn, 1) := by decide +kernel
theorem d_z_codeDistance_19 : decode M_z_codeDistance.2.1 19 = .ok (.aload_n 1, 1) := by decide +kernel
theorem d_z_codeDistance_20 : decode M_z_codeDistance.2.1 20 = .ok (.aload_n 0, 1) := by decide +kernel
theorem d_z_codeDistance_21 : decode M_z_codeDistance.2.1 21 = .ok (.getfield 11, 3) := by decide +kernel
theorem d_z_codeDistance_24 : decode M_z_codeDistance.2.1 24 = .ok (.aload_n 2, 1) := by decide +kernel
theorem d_z_codeDistance_25 : decode M_z_codeDistance.2.1 25 = .ok (.getfield 69, 3) := by decide +kernel
theorem d_z_codeDistance_28 : decode M_z_codeDistance.2.1 28 = .ok (.aaload, 1) := by decide +kernel
theorem d_z_codeDistance_29 : decode M_z_codeDistance.2.1 29 = .ok (.aload_n 0, 1) := by decide +kernel
theorem d_z_codeDistance_30 : decode M_z_codeDistance.2.1 30 = .ok (.getfield 19, 3) := by decide +kernel
theorem d_z_codeDistance_33 : decode M_z_codeDistance.2.1 33 = .ok (.invokestatic 72, 3) := by decide +kernel
theorem d_z_codeDistance_36 : decode M_z_codeDistance.2.1 36 = .ok (.iconst 0, 1) := by decide +kernel
theorem d_z_codeDistance_37 : decode M_z_codeDistance.2.1 37 = .ok (.istore_n 3, 1) := by decide +kernel
theorem d_z_codeDistance_38 : decode M_z_codeDistance.2.1 38 = .ok (.iconst 0, 1) := by decide +kernel
theorem d_z_codeDistance_39 : decode M_z_codeDistance.2.1 39 = .ok (.istore 4, 2) := by decide +kernel
theorem d_z_codeDistance_41 : decode M_z_codeDistance.2.1 41 = .ok (.iload 4, 2) := by decide +kernel
theorem d_z_codeDistance_43 : decode M_z_codeDistance.2.1 43 = .ok (.aload_n 0, 1) := by decide +kernel
theorem d_z_codeDistance_44 : decode M_z_codeDistance.2.1 44 = .ok (.getfield 27, 3) := by decide +kernel
theorem d_z_codeDistance_47 : decode M_z_codeDistance.2.1 47 = .ok (.invokestatic 41, 3) := by decide +kernel
theorem d_z_codeDistance_50 : decode M_z_codeDistance.2.1 50 = .ok (.if_icmp .ge 29, 3) := by decide +kernel
theorem d_z_codeDistance_53 : decode M_z_codeDistance.2.1 53 = .ok (.iload_n 3, 1) := by decide +kernel
theorem d_z_codeDistance_54 : decode M_z_codeDistance.2.1 54 = .ok (.aload_n 0, 1) := by decide +kernel
theorem d_z_codeDistance_55 : decode M_z_codeDistance.2.1 55 = .ok (.iload 4, 2) := by decide +kernel
theorem d_z_codeDistance_57 : decode M_z_codeDistance.2.1 57 = .ok (.aload_n 2, 1) := by decide +kernel
theorem d_z_codeDistance_58 : decode M_z_codeDistance.2.1 58 = .ok (.getfield 76, 3) := by decide +kernel
theorem d_z_codeDistance_61 : decode M_z_codeDistance.2.1 61 = .ok (.iload 4, 2) := by decide +kernel
theorem d_z_codeDistance_63 : decode M_z_codeDistance.2.1 63 = .ok (.iaload, 1) := by decide +kernel
theorem d_z_codeDistance_64 : decode M_z_codeDistance.2.1 64 = .ok (.aload_n 0, 1) := by decide +kernel
theorem d_z_codeDistance_65 : decode M_z_codeDistance.2.1 65 = .ok (.getfield 19, 3) := by decide +kernel
theorem d_z_codeDistance_68 : decode M_z_codeDistance.2.1 68 = .ok (.invokevirtual 83, 3) := by decide +kernel
theorem d_z_codeDistance_71 : decode M_z_codeDistance.2.1 71 = .ok (.iadd, 1) := by decide +kernel
theorem d_z_codeDistance_72 : decode M_z_codeDistance.2.1 72 = .ok (.istore_n 3, 1) := by decide +kernel
theorem d_z_codeDistance_73 : decode M_z_codeDistance.2.1 73 = .ok (.iinc 4 1, 3) := by decide +kernel
theorem d_z_codeDistance_76 : decode M_z_codeDistance.2.1 76 = .ok (.goto (-35), 3) := by decide +kernel
theorem d_z_codeDistance_79 : decode M_z_codeDistance.2.1 79 = .ok (.iload_n 3, 1) := by decide +kernel
theorem d_z_codeDistance_80 : decode M_z_codeDistance.2.1 80 = .ok (.ireturn, 1) := by decide +kernel
theorem d_f_sort_0 : decode M_f_sort.2.1 0 = .ok (.iconst 1, 1) := by decide +kernel
theorem d_f_sort_1 : decode M_f_sort.2.1 1 = .ok (.istore_n 2, 1) := by decide +kernel
theorem d_f_sort_2 : decode M_f_sort.2.1 2 = .ok (.iload_n 2, 1) := by decide +kernel
theorem d_f_sort_3 : decode M_f_sort.2.1 3 = .ok (.iload_n 1, 1) := by decide +kernel
theorem d_f_sort_4 : decode M_f_sort.2.1 4 = .ok (.if_icmp .ge 101, 3) := by decide +kernel
theorem d_f_sort_7 : decode M_f_sort.2.1 7 = .ok (.aload_n 0, 1) := by decide +kernel
theorem d_f_sort_8 : decode M_f_sort.2.1 8 = .ok (.getfield 18, 3) := by decide +kernel
theorem d_f_sort_11 : decode M_f_sort.2.1 11 = .ok (.iload_n 2, 1) := by decide +kernel
theorem d_f_sort_12 : decode M_f_sort.2.1 12 = .ok (.iaload, 1) := by decide +kernel
theorem d_f_sort_13 : decode M_f_sort.2.1 13 = .ok (.istore_n 3, 1) := by decide +kernel
theorem d_f_sort_14 : decode M_f_sort.2.1 14 = .ok (.aload_n 0, 1) := by decide +kernel
theorem d_f_sort_15 : decode M_f_sort.2.1 15 = .ok (.getfield 21, 3) := by decide +kernel
theorem d_f_sort_18 : decode M_f_sort.2.1 18 = .ok (.iload_n 2, 1) := by decide +kernel
theorem d_f_sort_19 : decode M_f_sort.2.1 19 = .ok (.iaload, 1) := by decide +kernel
theorem d_f_sort_20 : decode M_f_sort.2.1 20 = .ok (.istore 4, 2) := by decide +kernel
theorem d_f_sort_22 : decode M_f_sort.2.1 22 = .ok (.iload_n 2, 1) := by decide +kernel
theorem d_f_sort_23 : decode M_f_sort.2.1 23 = .ok (.istore 5, 2) := by decide +kernel
theorem d_f_sort_25 : decode M_f_sort.2.1 25 = .ok (.iload 5, 2) := by decide +kernel
theorem d_f_sort_27 : decode M_f_sort.2.1 27 = .ok (.ifCond .le 55, 3) := by decide +kernel
theorem d_f_sort_30 : decode M_f_sort.2.1 30 = .ok (.aload_n 0, 1) := by decide +kernel
theorem d_f_sort_31 : decode M_f_sort.2.1 31 = .ok (.iload 4, 2) := by decide +kernel
theorem d_f_sort_33 : decode M_f_sort.2.1 33 = .ok (.iload_n 3, 1) := by decide +kernel
theorem d_f_sort_34 : decode M_f_sort.2.1 34 = .ok (.iload 5, 2) := by decide +kernel
theorem d_f_sort_36 : decode M_f_sort.2.1 36 = .ok (.iconst 1, 1) := by decide +kernel
theorem d_f_sort_37 : decode M_f_sort.2.1 37 = .ok (.isub, 1) := by decide +kernel
theorem d_f_sort_38 : decode M_f_sort.2.1 38 = .ok (.invokevirtual 97, 3) := by decide +kernel
theorem d_f_sort_41 : decode M_f_sort.2.1 41 = .ok (.ifCond .eq 41, 3) := by decide +kernel
theorem d_f_sort_44 : decode M_f_sort.2.1 44 = .ok (.aload_n 0, 1) := by decide +kernel
theorem d_f_sort_45 : decode M_f_sort.2.1 45 = .ok (.getfield 18, 3) := by decide +kernel
theorem d_f_sort_48 : decode M_f_sort.2.1 48 = .ok (.iload 5, 2) := by decide +kernel
theorem d_f_sort_50 : decode M_f_sort.2.1 50 = .ok (.aload_n 0, 1) := by decide +kernel
theorem d_f_sort_51 : decode M_f_sort.2.1 51 = .ok (.getfield 18, 3) := by decide +kernel
theorem d_f_sort_54 : decode M_f_sort.2.1 54 = .ok (.iload 5, 2) := by decide +kernel
theorem d_f_sort_56 : decode M_f_sort.2.1 56 = .ok (.iconst 1, 1) := by decide +kernel
theorem d_f_sort_57 : decode M_f_sort.2.1 57 = .ok (.isub, 1) := by decide +kernel
theorem d_f_sort_58 : decode M_f_sort.2.1 58 = .ok (.iaload, 1) := by decide +kernel
theorem d_f_sort_59 : decode M_f_sort.2.1 59 = .ok (.iastore, 1) := by decide +kernel
theorem d_f_sort_60 : decode M_f_sort.2.1 60 = .ok (.aload_n 0, 1) := by decide +kernel
theorem d_f_sort_61 : decode M_f_sort.2.1 61 = .ok (.getfield 21, 3) := by decide +kernel
theorem d_f_sort_64 : decode M_f_sort.2.1 64 = .ok (.iload 5, 2) := by decide +kernel
theorem d_f_sort_66 : decode M_f_sort.2.1 66 = .ok (.aload_n 0, 1) := by decide +kernel
theorem d_f_sort_67 : decode M_f_sort.2.1 67 = .ok (.getfield 21, 3) := by decide +kernel
theorem d_f_sort_70 : decode M_f_sort.2.1 70 = .ok (.iload 5, 2) := by decide +kernel
theorem d_f_sort_72 : decode M_f_sort.2.1 72 = .ok (.iconst 1, 1) := by decide +kernel
theorem d_f_sort_73 : decode M_f_sort.2.1 73 = .ok (.isub, 1) := by decide +kernel
theorem d_f_sort_74 : decode M_f_sort.2.1 74 = .ok (.iaload, 1) := by decide +kernel
theorem d_f_sort_75 : decode M_f_sort.2.1 75 = .ok (.iastore, 1) := by decide +kernel
theorem d_f_sort_76 : decode M_f_sort.2.1 76 = .ok (.iinc 5 (-1), 3) := by decide +kernel
theorem d_f_sort_79 : decode M_f_sort.2.1 79 = .ok (.goto (-54), 3) := by decide +kernel
theorem d_f_sort_82 : decode M_f_sort.2.1 82 = .ok (.aload_n 0, 1) := by decide +kernel
theorem d_f_sort_83 : decode M_f_sort.2.1 83 = .ok (.getfield 18, 3) := by decide +kernel
theorem d_f_sort_86 : decode M_f_sort.2.1 86 = .ok (.iload 5, 2) := by decide +kernel
theorem d_f_sort_88 : decode M_f_sort.2.1 88 = .ok (.iload_n 3, 1) := by decide +kernel
theorem d_f_sort_89 : decode M_f_sort.2.1 89 = .ok (.iastore, 1) := by decide +kernel
theorem d_f_sort_90 : decode M_f_sort.2.1 90 = .ok (.aload_n 0, 1) := by decide +kernel
theorem d_f_sort_91 : decode M_f_sort.2.1 91 = .ok (.getfield 21, 3) := by decide +kernel
theorem d_f_sort_94 : decode M_f_sort.2.1 94 = .ok (.iload 5, 2) := by decide +kernel
theorem d_f_sort_96 : decode M_f_sort.2.1 96 = .ok (.iload 4, 2) := by decide +kernel
theorem d_f_sort_98 : decode M_f_sort.2.1 98 = .ok (.iastore, 1) := by decide +kernel
end
section
theorem d_f_sort_99 : decode M_f_sort.2.1 99 = .ok (.iinc 2 1, 3) := by decide +kernel
theorem d_f_sort_102 : decode M_f_sort.2.1 102 = .ok (.goto (-100), 3) := by decide +kernel
theorem d_f_sort_105 : decode M_f_sort.2.1 105 = .ok (.return_, 1) := by decide +kernel
theorem d_f_isBefore_0 : decode M_f_isBefore.2.1 0 = .ok (.iload_n 1, 1) := by decide +kernel
theorem d_f_isBefore_1 : decode M_f_isBefore.2.1 1 = .ok (.aload_n 0, 1) := by decide +kernel
theorem d_f_isBefore_2 : decode M_f_isBefore.2.1 2 = .ok (.getfield 21, 3) := by decide +kernel
theorem d_f_isBefore_5 : decode M_f_isBefore.2.1 5 = .ok (.iload_n 3, 1) := by decide +kernel
theorem d_f_isBefore_6 : decode M_f_isBefore.2.1 6 = .ok (.iaload, 1) := by decide +kernel
theorem d_f_isBefore_7 : decode M_f_isBefore.2.1 7 = .ok (.if_icmp .lt 23, 3) := by decide +kernel
theorem d_f_isBefore_10 : decode M_f_isBefore.2.1 10 = .ok (.iload_n 1, 1) := by decide +kernel
theorem d_f_isBefore_11 : decode M_f_isBefore.2.1 11 = .ok (.aload_n 0, 1) := by decide +kernel
theorem d_f_isBefore_12 : decode M_f_isBefore.2.1 12 = .ok (.getfield 21, 3) := by decide +kernel
theorem d_f_isBefore_15 : decode M_f_isBefore.2.1 15 = .ok (.iload_n 3, 1) := by decide +kernel
theorem d_f_isBefore_16 : decode M_f_isBefore.2.1 16 = .ok (.iaload, 1) := by decide +kernel
theorem d_f_isBefore_17 : decode M_f_isBefore.2.1 17 = .ok (.if_icmp .ne 17, 3) := by decide +kernel
theorem d_f_isBefore_20 : decode M_f_isBefore.2.1 20 = .ok (.iload_n 2, 1) := by decide +kernel
theorem d_f_isBefore_21 : decode M_f_isBefore.2.1 21 = .ok (.aload_n 0, 1) := by decide +kernel
theorem d_f_isBefore_22 : decode M_f_isBefore.2.1 22 = .ok (.getfield 18, 3) := by decide +kernel
theorem d_f_isBefore_25 : decode M_f_isBefore.2.1 25 = .ok (.iload_n 3, 1) := by decide +kernel
theorem d_f_isBefore_26 : decode M_f_isBefore.2.1 26 = .ok (.iaload, 1) := by decide +kernel
theorem d_f_isBefore_27 : decode M_f_isBefore.2.1 27 = .ok (.if_icmp .ge 7, 3) := by decide +kernel
theorem d_f_isBefore_30 : decode M_f_isBefore.2.1 30 = .ok (.iconst 1, 1) := by decide +kernel
theorem d_f_isBefore_31 : decode M_f_isBefore.2.1 31 = .ok (.goto 4, 3) := by decide +kernel
theorem d_f_isBefore_34 : decode M_f_isBefore.2.1 34 = .ok (.iconst 0, 1) := by decide +kernel
theorem d_f_isBefore_35 : decode M_f_isBefore.2.1 35 = .ok (.ireturn, 1) := by decide +kernel
theorem d_f_measure_0 : decode M_f_measure.2.1 0 = .ok (.iconst 0, 1) := by decide +kernel
theorem d_f_measure_1 : decode M_f_measure.2.1 1 = .ok (.istore_n 3, 1) := by decide +kernel
theorem d_f_measure_2 : decode M_f_measure.2.1 2 = .ok (.iload_n 3, 1) := by decide +kernel
theorem d_f_measure_3 : decode M_f_measure.2.1 3 = .ok (.iload_n 2, 1) := by decide +kernel
theorem d_f_measure_4 : decode M_f_measure.2.1 4 = .ok (.if_icmp .ge 38, 3) := by decide +kernel
theorem d_f_measure_7 : decode M_f_measure.2.1 7 = .ok (.aload_n 0, 1) := by decide +kernel
theorem d_f_measure_8 : decode M_f_measure.2.1 8 = .ok (.getfield 21, 3) := by decide +kernel
theorem d_f_measure_11 : decode M_f_measure.2.1 11 = .ok (.iload_n 3, 1) := by decide +kernel
theorem d_f_measure_12 : decode M_f_measure.2.1 12 = .ok (.aload_n 0, 1) := by decide +kernel
theorem d_f_measure_13 : decode M_f_measure.2.1 13 = .ok (.getfield 15, 3) := by decide +kernel
theorem d_f_measure_16 : decode M_f_measure.2.1 16 = .ok (.aload_n 1, 1) := by decide +kernel
theorem d_f_measure_17 : decode M_f_measure.2.1 17 = .ok (.getfield 71, 3) := by decide +kernel
theorem d_f_measure_20 : decode M_f_measure.2.1 20 = .ok (.aload_n 0, 1) := by decide +kernel
theorem d_f_measure_21 : decode M_f_measure.2.1 21 = .ok (.getfield 18, 3) := by decide +kernel
theorem d_f_measure_24 : decode M_f_measure.2.1 24 = .ok (.iload_n 3, 1) := by decide +kernel
theorem d_f_measure_25 : decode M_f_measure.2.1 25 = .ok (.iaload, 1) := by decide +kernel
theorem d_f_measure_26 : decode M_f_measure.2.1 26 = .ok (.aaload, 1) := by decide +kernel
theorem d_f_measure_27 : decode M_f_measure.2.1 27 = .ok (.getfield 90, 3) := by decide +kernel
theorem d_f_measure_30 : decode M_f_measure.2.1 30 = .ok (.iconst 0, 1) := by decide +kernel
theorem d_f_measure_31 : decode M_f_measure.2.1 31 = .ok (.iconst 4, 1) := by decide +kernel
theorem d_f_measure_32 : decode M_f_measure.2.1 32 = .ok (.invokestatic 93, 3) := by decide +kernel
theorem d_f_measure_35 : decode M_f_measure.2.1 35 = .ok (.iastore, 1) := by decide +kernel
theorem d_f_measure_36 : decode M_f_measure.2.1 36 = .ok (.iinc 3 1, 3) := by decide +kernel
theorem d_f_measure_39 : decode M_f_measure.2.1 39 = .ok (.goto (-37), 3) := by decide +kernel
theorem d_f_measure_42 : decode M_f_measure.2.1 42 = .ok (.return_, 1) := by decide +kernel
theorem d_f_keepIds_0 : decode M_f_keepIds.2.1 0 = .ok (.iconst 0, 1) := by decide +kernel
theorem d_f_keepIds_1 : decode M_f_keepIds.2.1 1 = .ok (.istore_n 2, 1) := by decide +kernel
theorem d_f_keepIds_2 : decode M_f_keepIds.2.1 2 = .ok (.iload_n 2, 1) := by decide +kernel
theorem d_f_keepIds_3 : decode M_f_keepIds.2.1 3 = .ok (.aload_n 0, 1) := by decide +kernel
theorem d_f_keepIds_4 : decode M_f_keepIds.2.1 4 = .ok (.getfield 34, 3) := by decide +kernel
theorem d_f_keepIds_7 : decode M_f_keepIds.2.1 7 = .ok (.if_icmp .ge 29, 3) := by decide +kernel
theorem d_f_keepIds_10 : decode M_f_keepIds.2.1 10 = .ok (.aload_n 0, 1) := by decide +kernel
theorem d_f_keepIds_11 : decode M_f_keepIds.2.1 11 = .ok (.getfield 24, 3) := by decide +kernel
theorem d_f_keepIds_14 : decode M_f_keepIds.2.1 14 = .ok (.iload_n 2, 1) := by decide +kernel
theorem d_f_keepIds_15 : decode M_f_keepIds.2.1 15 = .ok (.aload_n 1, 1) := by decide +kernel
theorem d_f_keepIds_16 : decode M_f_keepIds.2.1 16 = .ok (.getfield 71, 3) := by decide +kernel
theorem d_f_keepIds_19 : decode M_f_keepIds.2.1 19 = .ok (.aload_n 0, 1) := by decide +kernel
theorem d_f_keepIds_20 : decode M_f_keepIds.2.1 20 = .ok (.getfield 18, 3) := by decide +kernel
theorem d_f_keepIds_23 : decode M_f_keepIds.2.1 23 = .ok (.iload_n 2, 1) := by decide +kernel
theorem d_f_keepIds_24 : decode M_f_keepIds.2.1 24 = .ok (.iaload, 1) := by decide +kernel
theorem d_f_keepIds_25 : decode M_f_keepIds.2.1 25 = .ok (.aaload, 1) := by decide +kernel
theorem d_f_keepIds_26 : decode M_f_keepIds.2.1 26 = .ok (.getfield 100, 3) := by decide +kernel
theorem d_f_keepIds_29 : decode M_f_keepIds.2.1 29 = .ok (.iastore, 1) := by decide +kernel
theorem d_f_keepIds_30 : decode M_f_keepIds.2.1 30 = .ok (.iinc 2 1, 3) := by decide +kernel
theorem d_f_keepIds_33 : decode M_f_keepIds.2.1 33 = .ok (.goto (-31), 3) := by decide +kernel
theorem d_f_keepIds_36 : decode M_f_keepIds.2.1 36 = .ok (.return_, 1) := by decide +kernel
theorem d_q_hit_0 : decode M_q_hit.2.1 0 = .ok (.aload_n 0, 1) := by decide +kernel
theorem d_q_hit_1 : decode M_q_hit.2.1 1 = .ok (.getfield 47, 3) := by decide +kernel
theorem d_q_hit_4 : decode M_q_hit.2.1 4 = .ok (.iload_n 1, 1) := by decide +kernel
theorem d_q_hit_5 : decode M_q_hit.2.1 5 = .ok (.invokevirtual 182, 3) := by decide +kernel
theorem d_q_hit_8 : decode M_q_hit.2.1 8 = .ok (.ifCond .eq 15, 3) := by decide +kernel
theorem d_q_hit_11 : decode M_q_hit.2.1 11 = .ok (.aload_n 0, 1) := by decide +kernel
theorem d_q_hit_12 : decode M_q_hit.2.1 12 = .ok (.getfield 47, 3) := by decide +kernel
theorem d_q_hit_15 : decode M_q_hit.2.1 15 = .ok (.getfield 185, 3) := by decide +kernel
theorem d_q_hit_18 : decode M_q_hit.2.1 18 = .ok (.iload_n 1, 1) := by decide +kernel
theorem d_q_hit_19 : decode M_q_hit.2.1 19 = .ok (.iaload, 1) := by decide +kernel
theorem d_q_hit_20 : decode M_q_hit.2.1 20 = .ok (.goto 4, 3) := by decide +kernel
theorem d_q_hit_23 : decode M_q_hit.2.1 23 = .ok (.iconst (-1), 1) := by decide +kernel
theorem d_q_hit_24 : decode M_q_hit.2.1 24 = .ok (.ireturn, 1) := by decide +kernel
theorem d_f_hasResult_0 : decode M_f_hasResult.2.1 0 = .ok (.iload_n 1, 1) := by decide +kernel
theorem d_f_hasResult_1 : decode M_f_hasResult.2.1 1 = .ok (.iconst 0, 1) := by decide +kernel
theorem d_f_hasResult_2 : decode M_f_hasResult.2.1 2 = .ok (.aload_n 0, 1) := by decide +kernel
theorem d_f_hasResult_3 : decode M_f_hasResult.2.1 3 = .ok (.getfield 34, 3) := by decide +kernel
theorem d_f_hasResult_6 : decode M_f_hasResult.2.1 6 = .ok (.iconst 1, 1) := by decide +kernel
theorem d_f_hasResult_7 : decode M_f_hasResult.2.1 7 = .ok (.isub, 1) := by decide +kernel
theorem d_f_hasResult_8 : decode M_f_hasResult.2.1 8 = .ok (.invokestatic 37, 3) := by decide +kernel
theorem d_f_hasResult_11 : decode M_f_hasResult.2.1 11 = .ok (.ireturn, 1) := by decide +kernel
theorem d_q_far_0 : decode M_q_far.2.1 0 = .ok (.aload_n 0, 1) := by decide +kernel
theorem d_q_far_1 : decode M_q_far.2.1 1 = .ok (.getfield 47, 3) := by decide +kernel
theorem d_q_far_4 : decode M_q_far.2.1 4 = .ok (.iload_n 1, 1) := by decide +kernel
theorem d_q_far_5 : decode M_q_far.2.1 5 = .ok (.invokevirtual 182, 3) := by decide +kernel
theorem d_q_far_8 : decode M_q_far.2.1 8 = .ok (.ifCond .eq 15, 3) := by decide +kernel
theorem d_q_far_11 : decode M_q_far.2.1 11 = .ok (.aload_n 0, 1) := by decide +kernel
theorem d_q_far_12 : decode M_q_far.2.1 12 = .ok (.getfield 47, 3) := by decide +kernel
theorem d_q_far_15 : decode M_q_far.2.1 15 = .ok (.getfield 188, 3) := by decide +kernel
theorem d_q_far_18 : decode M_q_far.2.1 18 = .ok (.iload_n 1, 1) := by decide +kernel
theorem d_q_far_19 : decode M_q_far.2.1 19 = .ok (.iaload, 1) := by decide +kernel
theorem d_q_far_20 : decode M_q_far.2.1 20 = .ok (.goto 4, 3) := by decide +kernel
theorem d_q_far_23 : decode M_q_far.2.1 23 = .ok (.iconst (-1), 1) := by decide +kernel
theorem d_q_far_24 : decode M_q_far.2.1 24 = .ok (.ireturn, 1) := by decide +kernel
theorem d_q_scanned_0 : decode M_q_scanned.2.1 0 = .ok (.aload_n 0, 1) := by decide +kernel
theorem d_q_scanned_1 : decode M_q_scanned.2.1 1 = .ok (.getfield 47, 3) := by decide +kernel
theorem d_q_scanned_4 : decode M_q_scanned.2.1 4 = .ok (.getfield 191, 3) := by decide +kernel
theorem d_q_scanned_7 : decode M_q_scanned.2.1 7 = .ok (.ireturn, 1) := by decide +kernel
theorem d_q_save_0 : decode M_q_save.2.1 0 = .ok (.aload_n 0, 1) := by decide +kernel
theorem d_q_save_1 : decode M_q_save.2.1 1 = .ok (.getfield 33, 3) := by decide +kernel
theorem d_q_save_4 : decode M_q_save.2.1 4 = .ok (.getfield 62, 3) := by decide +kernel
theorem d_q_save_7 : decode M_q_save.2.1 7 = .ok (.ifCond .ne 5, 3) := by decide +kernel
theorem d_q_save_10 : decode M_q_save.2.1 10 = .ok (.iconst (-1), 1) := by decide +kernel
theorem d_q_save_11 : decode M_q_save.2.1 11 = .ok (.ireturn, 1) := by decide +kernel
theorem d_q_save_12 : decode M_q_save.2.1 12 = .ok (.aload_n 0, 1) := by decide +kernel
theorem d_q_save_13 : decode M_q_save.2.1 13 = .ok (.getfield 54, 3) := by decide +kernel
theorem d_q_save_16 : decode M_q_save.2.1 16 = .ok (.iconst 0, 1) := by decide +kernel
theorem d_q_save_17 : decode M_q_save.2.1 17 = .ok (.putfield 194, 3) := by decide +kernel
theorem d_q_save_20 : decode M_q_save.2.1 20 = .ok (.aload_n 0, 1) := by decide +kernel
theorem d_q_save_21 : decode M_q_save.2.1 21 = .ok (.invokevirtual 197, 3) := by decide +kernel
theorem d_q_save_24 : decode M_q_save.2.1 24 = .ok (.aload_n 0, 1) := by decide +kernel
theorem d_q_save_25 : decode M_q_save.2.1 25 = .ok (.invokevirtual 200, 3) := by decide +kernel
theorem d_q_save_28 : decode M_q_save.2.1 28 = .ok (.aload_n 0, 1) := by decide +kernel
theorem d_q_save_29 : decode M_q_save.2.1 29 = .ok (.invokevirtual 203, 3) := by decide +kernel
theorem d_q_save_32 : decode M_q_save.2.1 32 = .ok (.aload_n 0, 1) := by decide +kernel
theorem d_q_save_33 : decode M_q_save.2.1 33 = .ok (.invokevirtual 206, 3) := by decide +kernel
theorem d_q_save_36 : decode M_q_save.2.1 36 = .ok (.aload_n 0, 1) := by decide +kernel
theorem d_q_save_37 : decode M_q_save.2.1 37 = .ok (.getfield 54, 3) := by decide +kernel
theorem d_q_save_40 : decode M_q_save.2.1 40 = .ok (.aload_n 0, 1) := by decide +kernel
theorem d_q_save_41 : decode M_q_save.2.1 41 = .ok (.getfield 54, 3) := by decide +kernel
theorem d_q_save_44 : decode M_q_save.2.1 44 = .ok (.aload_n 0, 1) := by decide +kernel
theorem d_q_save_45 : decode M_q_save.2.1 45 = .ok (.getfield 54, 3) := by decide +kernel
theorem d_q_save_48 : decode M_q_save.2.1 48 = .ok (.getfield 194, 3) := by decide +kernel
theorem d_q_save_51 : decode M_q_save.2.1 51 = .ok (.invokevirtual 209, 3) := by decide +kernel
theorem d_q_save_54 : decode M_q_save.2.1 54 = .ok (.invokevirtual 212, 3) := by decide +kernel
theorem d_q_save_57 : decode M_q_save.2.1 57 = .ok (.aload_n 0, 1) := by decide +kernel
theorem d_q_save_58 : decode M_q_save.2.1 58 = .ok (.getfield 54, 3) := by decide +kernel
theorem d_q_save_61 : decode M_q_save.2.1 61 = .ok (.getfield 194, 3) := by decide +kernel
theorem d_q_save_64 : decode M_q_save.2.1 64 = .ok (.ireturn, 1) := by decide +kernel
theorem d_q_writeHead_0 : decode M_q_writeHead.2.1 0 = .ok (.aload_n 0, 1) := by decide +kernel
theorem d_q_writeHead_1 : decode M_q_writeHead.2.1 1 = .ok (.getfield 54, 3) := by decide +kernel
theorem d_q_writeHead_4 : decode M_q_writeHead.2.1 4 = .ok (.bipush 86, 2) := by decide +kernel
theorem d_q_writeHead_6 : decode M_q_writeHead.2.1 6 = .ok (.invokevirtual 212, 3) := by decide +kernel
theorem d_q_writeHead_9 : decode M_q_writeHead.2.1 9 = .ok (.aload_n 0, 1) := by decide +kernel
theorem d_q_writeHead_10 : decode M_q_writeHead.2.1 10 = .ok (.getfield 54, 3) := by decide +kernel
theorem d_q_writeHead_13 : decode M_q_writeHead.2.1 13 = .ok (.iconst 1, 1) := by decide +kernel
theorem d_q_writeHead_14 : decode M_q_writeHead.2.1 14 = .ok (.invokevirtual 212, 3) := by decide +kernel
theorem d_q_writeHead_17 : decode M_q_writeHead.2.1 17 = .ok (.aload_n 0, 1) := by decide +kernel
theorem d_q_writeHead_18 : decode M_q_writeHead.2.1 18 = .ok (.getfield 54, 3) := by decide +kernel
theorem d_q_writeHead_21 : decode M_q_writeHead.2.1 21 = .ok (.aload_n 0, 1) := by decide +kernel
theorem d_q_writeHead_22 : decode M_q_writeHead.2.1 22 = .ok (.getfield 33, 3) := by decide +kernel
theorem d_q_writeHead_25 : decode M_q_writeHead.2.1 25 = .ok (.getfield 118, 3) := by decide +kernel
theorem d_q_writeHead_28 : decode M_q_writeHead.2.1 28 = .ok (.invokevirtual 212, 3) := by decide +kernel
theorem d_q_writeHead_31 : decode M_q_writeHead.2.1 31 = .ok (.aload_n 0, 1) := by decide +kernel
theorem d_q_writeHead_32 : decode M_q_writeHead.2.1 32 = .ok (.getfield 54, 3) := by decide +kernel
theorem d_q_writeHead_35 : decode M_q_writeHead.2.1 35 = .ok (.aload_n 0, 1) := by decide +kernel
theorem d_q_writeHead_36 : decode M_q_writeHead.2.1 36 = .ok (.getfield 33, 3) := by decide +kernel
theorem d_q_writeHead_39 : decode M_q_writeHead.2.1 39 = .ok (.getfield 239, 3) := by decide +kernel
theorem d_q_writeHead_42 : decode M_q_writeHead.2.1 42 = .ok (.invokevirtual 212, 3) := by decide +kernel
theorem d_q_writeHead_45 : decode M_q_writeHead.2.1 45 = .ok (.aload_n 0, 1) := by decide +kernel
theorem d_q_writeHead_46 : decode M_q_writeHead.2.1 46 = .ok (.getfield 54, 3) := by decide +kernel
theorem d_q_writeHead_49 : decode M_q_writeHead.2.1 49 = .ok (.aload_n 0, 1) := by decide +kernel
theorem d_q_writeHead_50 : decode M_q_writeHead.2.1 50 = .ok (.getfield 33, 3) := by decide +kernel
theorem d_q_writeHead_53 : decode M_q_writeHead.2.1 53 = .ok (.getfield 260, 3) := by decide +kernel
theorem d_q_writeHead_56 : decode M_q_writeHead.2.1 56 = .ok (.invokevirtual 212, 3) := by decide +kernel
theorem d_q_writeHead_59 : decode M_q_writeHead.2.1 59 = .ok (.aload_n 0, 1) := by decide +kernel
theorem d_q_writeHead_60 : decode M_q_writeHead.2.1 60 = .ok (.getfield 54, 3) := by decide +kernel
theorem d_q_writeHead_63 : decode M_q_writeHead.2.1 63 = .ok (.aload_n 0, 1) := by decide +kernel
theorem d_q_writeHead_64 : decode M_q_writeHead.2.1 64 = .ok (.getfield 40, 3) := by decide +kernel
theorem d_q_writeHead_67 : decode M_q_writeHead.2.1 67 = .ok (.getfield 85, 3) := by decide +kernel
theorem d_q_writeHead_70 : decode M_q_writeHead.2.1 70 = .ok (.invokevirtual 212, 3) := by decide +kernel
theorem d_q_writeHead_73 : decode M_q_writeHead.2.1 73 = .ok (.iconst 0, 1) := by decide +kernel
theorem d_q_writeHead_74 : decode M_q_writeHead.2.1 74 = .ok (.istore_n 1, 1) := by decide +kernel
theorem d_q_writeHead_75 : decode M_q_writeHead.2.1 75 = .ok (.iload_n 1, 1) := by decide +kernel
theorem d_q_writeHead_76 : decode M_q_writeHead.2.1 76 = .ok (.iconst 4, 1) := by decide +kernel
theorem d_q_writeHead_77 : decode M_q_writeHead.2.1 77 = .ok (.if_icmp .ge 27, 3) := by decide +kernel
theorem d_q_writeHead_80 : decode M_q_writeHead.2.1 80 = .ok (.aload_n 0, 1) := by decide +kernel
theorem d_q_writeHead_81 : decode M_q_writeHead.2.1 81 = .ok (.getfield 54, 3) := by decide +kernel
theorem d_q_writeHead_84 : decode M_q_writeHead.2.1 84 = .ok (.aload_n 0, 1) := by decide +kernel
theorem d_q_writeHead_85 : decode M_q_writeHead.2.1 85 = .ok (.getfield 10, 3) := by decide +kernel
theorem d_q_writeHead_88 : decode M_q_writeHead.2.1 88 = .ok (.getfield 291, 3) := by decide +kernel
theorem d_q_writeHead_91 : decode M_q_writeHead.2.1 91 = .ok (.iload_n 1, 1) := by decide +kernel
theorem d_q_writeHead_92 : decode M_q_writeHead.2.1 92 = .ok (.iaload, 1) := by decide +kernel
theorem d_q_writeHead_93 : decode M_q_writeHead.2.1 93 = .ok (.iconst 4, 1) := by decide +kernel
theorem d_q_writeHead_94 : decode M_q_writeHead.2.1 94 = .ok (.iadd, 1) := by decide +kernel
theorem d_q_writeHead_95 : decode M_q_writeHead.2.1 95 = .ok (.invokevirtual 212, 3) := by decide +kernel
theorem d_q_writeHead_98 : decode M_q_writeHead.2.1 98 = .ok (.iinc 1 1, 3) := by decide +kernel
theorem d_q_writeHead_101 : decode M_q_writeHead.2.1 101 = .ok (.goto (-26), 3) := by decide +kernel
theorem d_q_writeHead_104 : decode M_q_writeHead.2.1 104 = .ok (.return_, 1) := by decide +kernel
theorem d_y_put_0 : decode M_y_put.2.1 0 = .ok (.aload_n 0, 1) := by decide +kernel
theorem d_y_put_1 : decode M_y_put.2.1 1 = .ok (.getfield 15, 3) := by decide +kernel
theorem d_y_put_4 : decode M_y_put.2.1 4 = .ok (.sipush 250, 3) := by decide +kernel
theorem d_y_put_7 : decode M_y_put.2.1 7 = .ok (.if_icmp .ge 23, 3) := by decide +kernel
theorem d_y_put_10 : decode M_y_put.2.1 10 = .ok (.aload_n 0, 1) := by decide +kernel
theorem d_y_put_11 : decode M_y_put.2.1 11 = .ok (.getfield 11, 3) := by decide +kernel
theorem d_y_put_14 : decode M_y_put.2.1 14 = .ok (.aload_n 0, 1) := by decide +kernel
theorem d_y_put_15 : decode M_y_put.2.1 15 = .ok (.getfield 15, 3) := by decide +kernel
theorem d_y_put_18 : decode M_y_put.2.1 18 = .ok (.iload_n 1, 1) := by decide +kernel
theorem d_y_put_19 : decode M_y_put.2.1 19 = .ok (.iastore, 1) := by decide +kernel
theorem d_y_put_20 : decode M_y_put.2.1 20 = .ok (.aload_n 0, 1) := by decide +kernel
theorem d_y_put_21 : decode M_y_put.2.1 21 = .ok (.dup, 1) := by decide +kernel
theorem d_y_put_22 : decode M_y_put.2.1 22 = .ok (.getfield 15, 3) := by decide +kernel
theorem d_y_put_25 : decode M_y_put.2.1 25 = .ok (.iconst 1, 1) := by decide +kernel
theorem d_y_put_26 : decode M_y_put.2.1 26 = .ok (.iadd, 1) := by decide +kernel
theorem d_y_put_27 : decode M_y_put.2.1 27 = .ok (.putfield 15, 3) := by decide +kernel
theorem d_y_put_30 : decode M_y_put.2.1 30 = .ok (.return_, 1) := by decide +kernel
theorem d_q_writeCentres_0 : decode M_q_writeCentres.2.1 0 = .ok (.iconst 0, 1) := by decide +kernel
theorem d_q_writeCentres_1 : decode M_q_writeCentres.2.1 1 = .ok (.istore_n 1, 1) := by decide +kernel
theorem d_q_writeCentres_2 : decode M_q_writeCentres.2.1 2 = .ok (.iload_n 1, 1) := by decide +kernel
theorem d_q_writeCentres_3 : decode M_q_writeCentres.2.1 3 = .ok (.aload_n 0, 1) := by decide +kernel
theorem d_q_writeCentres_4 : decode M_q_writeCentres.2.1 4 = .ok (.getfield 33, 3) := by decide +kernel
theorem d_q_writeCentres_7 : decode M_q_writeCentres.2.1 7 = .ok (.getfield 239, 3) := by decide +kernel
theorem d_q_writeCentres_10 : decode M_q_writeCentres.2.1 10 = .ok (.if_icmp .ge 44, 3) := by decide +kernel
theorem d_q_writeCentres_13 : decode M_q_writeCentres.2.1 13 = .ok (.iconst 0, 1) := by decide +kernel
theorem d_q_writeCentres_14 : decode M_q_writeCentres.2.1 14 = .ok (.istore_n 2, 1) := by decide +kernel
theorem d_q_writeCentres_15 : decode M_q_writeCentres.2.1 15 = .ok (.iload_n 2, 1) := by decide +kernel
theorem d_q_writeCentres_16 : decode M_q_writeCentres.2.1 16 = .ok (.iconst 4, 1) := by decide +kernel
theorem d_q_writeCentres_17 : decode M_q_writeCentres.2.1 17 = .ok (.if_icmp .ge 31, 3) := by decide +kernel
theorem d_q_writeCentres_20 : decode M_q_writeCentres.2.1 20 = .ok (.aload_n 0, 1) := by decide +kernel
theorem d_q_writeCentres_21 : decode M_q_writeCentres.2.1 21 = .ok (.getfield 54, 3) := by decide +kernel
theorem d_q_writeCentres_24 : decode M_q_writeCentres.2.1 24 = .ok (.aload_n 0, 1) := by decide +kernel
theorem d_q_writeCentres_25 : decode M_q_writeCentres.2.1 25 = .ok (.getfield 33, 3) := by decide +kernel
theorem d_q_writeCentres_28 : decode M_q_writeCentres.2.1 28 = .ok (.getfield 111, 3) := by decide +kernel
theorem d_q_writeCentres_31 : decode M_q_writeCentres.2.1 31 = .ok (.iload_n 1, 1) := by decide +kernel
theorem d_q_writeCentres_32 : decode M_q_writeCentres.2.1 32 = .ok (.aaload, 1) := by decide +kernel
theorem d_q_writeCentres_33 : decode M_q_writeCentres.2.1 33 = .ok (.iload_n 2, 1) := by decide +kernel
theorem d_q_writeCentres_34 : decode M_q_writeCentres.2.1 34 = .ok (.iaload, 1) := by decide +kernel
theorem d_q_writeCentres_35 : decode M_q_writeCentres.2.1 35 = .ok (.sipush 300, 3) := by decide +kernel
theorem d_q_writeCentres_38 : decode M_q_writeCentres.2.1 38 = .ok (.iadd, 1) := by decide +kernel
theorem d_q_writeCentres_39 : decode M_q_writeCentres.2.1 39 = .ok (.invokevirtual 294, 3) := by decide +kernel
theorem d_q_writeCentres_42 : decode M_q_writeCentres.2.1 42 = .ok (.iinc 2 1, 3) := by decide +kernel
theorem d_q_writeCentres_45 : decode M_q_writeCentres.2.1 45 = .ok (.goto (-30), 3) := by decide +kernel
theorem d_q_writeCentres_48 : decode M_q_writeCentres.2.1 48 = .ok (.iinc 1 1, 3) := by decide +kernel
theorem d_q_writeCentres_51 : decode M_q_writeCentres.2.1 51 = .ok (.goto (-49), 3) := by decide +kernel
theorem d_q_writeCentres_54 : decode M_q_writeCentres.2.1 54 = .ok (.return_, 1) := by decide +kernel
theorem d_y_putPair_0 : decode M_y_putPair.2.1 0 = .ok (.aload_n 0, 1) := by decide +kernel
theorem d_y_putPair_1 : decode M_y_putPair.2.1 1 = .ok (.iload_n 1, 1) := by decide +kernel
theorem d_y_putPair_2 : decode M_y_putPair.2.1 2 = .ok (.sipush 256, 3) := by decide +kernel
theorem d_y_putPair_5 : decode M_y_putPair.2.1 5 = .ok (.idiv, 1) := by decide +kernel
theorem d_y_putPair_6 : decode M_y_putPair.2.1 6 = .ok (.invokevirtual 19, 3) := by decide +kernel
theorem d_y_putPair_9 : decode M_y_putPair.2.1 9 = .ok (.aload_n 0, 1) := by decide +kernel
theorem d_y_putPair_10 : decode M_y_putPair.2.1 10 = .ok (.iload_n 1, 1) := by decide +kernel
theorem d_y_putPair_11 : decode M_y_putPair.2.1 11 = .ok (.sipush 256, 3) := by decide +kernel
theorem d_y_putPair_14 : decode M_y_putPair.2.1 14 = .ok (.irem, 1) := by decide +kernel
theorem d_y_putPair_15 : decode M_y_putPair.2.1 15 = .ok (.invokevirtual 19, 3) := by decide +kernel
theorem d_y_putPair_18 : decode M_y_putPair.2.1 18 = .ok (.return_, 1) := by decide +kernel
theorem d_q_writeWords_0 : decode M_q_writeWords.2.1 0 = .ok (.iconst 0, 1) := by decide +kernel
theorem d_q_writeWords_1 : decode M_q_writeWords.2.1 1 = .ok (.istore_n 1, 1) := by decide +kernel
theorem d_q_writeWords_2 : decode M_q_writeWords.2.1 2 = .ok (.iload_n 1, 1) := by decide +kernel
theorem d_q_writeWords_3 : decode M_q_writeWords.2.1 3 = .ok (.aload_n 0, 1) := by decide +kernel
theorem d_q_writeWords_4 : decode M_q_writeWords.2.1 4 = .ok (.getfield 33, 3) := by decide +kernel
theorem d_q_writeWords_7 : decode M_q_writeWords.2.1 7 = .ok (.getfield 118, 3) := by decide +kernel
theorem d_q_writeWords_10 : decode M_q_writeWords.2.1 10 = .ok (.invokestatic 257, 3) := by decide +kernel
theorem d_q_writeWords_13 : decode M_q_writeWords.2.1 13 = .ok (.if_icmp .ge 76, 3) := by decide +kernel
theorem d_q_writeWords_16 : decode M_q_writeWords.2.1 16 = .ok (.iconst 0, 1) := by decide +kernel
theorem d_q_writeWords_17 : decode M_q_writeWords.2.1 17 = .ok (.istore_n 2, 1) := by decide +kernel
theorem d_q_writeWords_18 : decode M_q_writeWords.2.1 18 = .ok (.iload_n 2, 1) := by decide +kernel
theorem d_q_writeWords_19 : decode M_q_writeWords.2.1 19 = .ok (.aload_n 0, 1) := by decide +kernel
theorem d_q_writeWords_20 : decode M_q_writeWords.2.1 20 = .ok (.getfield 33, 3) := by decide +kernel
theorem d_q_writeWords_23 : decode M_q_writeWords.2.1 23 = .ok (.getfield 260, 3) := by decide +kernel
theorem d_q_writeWords_26 : decode M_q_writeWords.2.1 26 = .ok (.if_icmp .ge 57, 3) := by decide +kernel
theorem d_q_writeWords_29 : decode M_q_writeWords.2.1 29 = .ok (.iconst 0, 1) := by decide +kernel
theorem d_q_writeWords_30 : decode M_q_writeWords.2.1 30 = .ok (.istore_n 3, 1) := by decide +kernel
theorem d_q_writeWords_31 : decode M_q_writeWords.2.1 31 = .ok (.iload_n 3, 1) := by decide +kernel
theorem d_q_writeWords_32 : decode M_q_writeWords.2.1 32 = .ok (.aload_n 0, 1) := by decide +kernel
theorem d_q_writeWords_33 : decode M_q_writeWords.2.1 33 = .ok (.getfield 33, 3) := by decide +kernel
theorem d_q_writeWords_36 : decode M_q_writeWords.2.1 36 = .ok (.getfield 118, 3) := by decide +kernel
theorem d_q_writeWords_39 : decode M_q_writeWords.2.1 39 = .ok (.invokestatic 121, 3) := by decide +kernel
theorem d_q_writeWords_42 : decode M_q_writeWords.2.1 42 = .ok (.if_icmp .ge 35, 3) := by decide +kernel
theorem d_q_writeWords_45 : decode M_q_writeWords.2.1 45 = .ok (.aload_n 0, 1) := by decide +kernel
theorem d_q_writeWords_46 : decode M_q_writeWords.2.1 46 = .ok (.getfield 54, 3) := by decide +kernel
theorem d_q_writeWords_49 : decode M_q_writeWords.2.1 49 = .ok (.aload_n 0, 1) := by decide +kernel
theorem d_q_writeWords_50 : decode M_q_writeWords.2.1 50 = .ok (.getfield 33, 3) := by decide +kernel
theorem d_q_writeWords_53 : decode M_q_writeWords.2.1 53 = .ok (.getfield 125, 3) := by decide +kernel
theorem d_q_writeWords_56 : decode M_q_writeWords.2.1 56 = .ok (.iload_n 1, 1) := by decide +kernel
theorem d_q_writeWords_57 : decode M_q_writeWords.2.1 57 = .ok (.iload_n 2, 1) := by decide +kernel
theorem d_q_writeWords_58 : decode M_q_writeWords.2.1 58 = .ok (.invokestatic 128, 3) := by decide +kernel
theorem d_q_writeWords_61 : decode M_q_writeWords.2.1 61 = .ok (.aaload, 1) := by decide +kernel
theorem d_q_writeWords_62 : decode M_q_writeWords.2.1 62 = .ok (.iload_n 3, 1) := by decide +kernel
theorem d_q_writeWords_63 : decode M_q_writeWords.2.1 63 = .ok (.iaload, 1) := by decide +kernel
theorem d_q_writeWords_64 : decode M_q_writeWords.2.1 64 = .ok (.sipush 300, 3) := by decide +kernel
theorem d_q_writeWords_67 : decode M_q_writeWords.2.1 67 = .ok (.iadd, 1) := by decide +kernel
theorem d_q_writeWords_68 : decode M_q_writeWords.2.1 68 = .ok (.invokevirtual 294, 3) := by decide +kernel
theorem d_q_writeWords_71 : decode M_q_writeWords.2.1 71 = .ok (.iinc 3 1, 3) := by decide +kernel
theorem d_q_writeWords_74 : decode M_q_writeWords.2.1 74 = .ok (.goto (-43), 3) := by decide +kernel
theorem d_q_writeWords_77 : decode M_q_writeWords.2.1 77 = .ok (.iinc 2 1, 3) := by decide +kernel
theorem d_q_writeWords_80 : decode M_q_writeWords.2.1 80 = .ok (.goto (-62), 3) := by decide +kernel
theorem d_q_writeWords_83 : decode M_q_writeWords.2.1 83 = .ok (.iinc 1 1, 3) := by decide +kernel
theorem d_q_writeWords_86 : decode M_q_writeWords.2.1 86 = .ok (.goto (-84), 3) := by decide +kernel
theorem d_q_writeWords_89 : decode M_q_writeWords.2.1 89 = .ok (.return_, 1) := by decide +kernel
theorem d_q_writeEntries_0 : decode M_q_writeEntries.2.1 0 = .ok (.iconst 0, 1) := by decide +kernel
theorem d_q_writeEntries_1 : decode M_q_writeEntries.2.1 1 = .ok (.istore_n 1, 1) := by decide +kernel
theorem d_q_writeEntries_2 : decode M_q_writeEntries.2.1 2 = .ok (.iload_n 1, 1) := by decide +kernel
theorem d_q_writeEntries_3 : decode M_q_writeEntries.2.1 3 = .ok (.aload_n 0, 1) := by decide +kernel
theorem d_q_writeEntries_4 : decode M_q_writeEntries.2.1 4 = .ok (.getfield 40, 3) := by decide +kernel
theorem d_q_writeEntries_7 : decode M_q_writeEntries.2.1 7 = .ok (.getfield 85, 3) := by decide +kernel
theorem d_q_writeEntries_10 : decode M_q_writeEntries.2.1 10 = .ok (.if_icmp .ge 59, 3) := by decide +kernel
theorem d_q_writeEntries_13 : decode M_q_writeEntries.2.1 13 = .ok (.aload_n 0, 1) := by decide +kernel
theorem d_q_writeEntries_14 : decode M_q_writeEntries.2.1 14 = .ok (.getfield 40, 3) := by decide +kernel
theorem d_q_writeEntries_17 : decode M_q_writeEntries.2.1 17 = .ok (.getfield 142, 3) := by decide +kernel
theorem d_q_writeEntries_20 : decode M_q_writeEntries.2.1 20 = .ok (.iload_n 1, 1) := by decide +kernel
theorem d_q_writeEntries_21 : decode M_q_writeEntries.2.1 21 = .ok (.aaload, 1) := by decide +kernel
theorem d_q_writeEntries_22 : decode M_q_writeEntries.2.1 22 = .ok (.astore_n 2, 1) := by decide +kernel
theorem d_q_writeEntries_23 : decode M_q_writeEntries.2.1 23 = .ok (.aload_n 0, 1) := by decide +kernel
theorem d_q_writeEntries_24 : decode M_q_writeEntries.2.1 24 = .ok (.getfield 54, 3) := by decide +kernel
theorem d_q_writeEntries_27 : decode M_q_writeEntries.2.1 27 = .ok (.aload_n 2, 1) := by decide +kernel
theorem d_q_writeEntries_28 : decode M_q_writeEntries.2.1 28 = .ok (.getfield 297, 3) := by decide +kernel
theorem d_q_writeEntries_31 : decode M_q_writeEntries.2.1 31 = .ok (.invokevirtual 294, 3) := by decide +kernel
theorem d_q_writeEntries_34 : decode M_q_writeEntries.2.1 34 = .ok (.iconst 0, 1) := by decide +kernel
theorem d_q_writeEntries_35 : decode M_q_writeEntries.2.1 35 = .ok (.istore_n 3, 1) := by decide +kernel
theorem d_q_writeEntries_36 : decode M_q_writeEntries.2.1 36 = .ok (.iload_n 3, 1) := by decide +kernel
theorem d_q_writeEntries_37 : decode M_q_writeEntries.2.1 37 = .ok (.iconst 4, 1) := by decide +kernel
theorem d_q_writeEntries_38 : decode M_q_writeEntries.2.1 38 = .ok (.if_icmp .ge 25, 3) := by decide +kernel
theorem d_q_writeEntries_41 : decode M_q_writeEntries.2.1 41 = .ok (.aload_n 0, 1) := by decide +kernel
theorem d_q_writeEntries_42 : decode M_q_writeEntries.2.1 42 = .ok (.getfield 54, 3) := by decide +kernel
theorem d_q_writeEntries_45 : decode M_q_writeEntries.2.1 45 = .ok (.aload_n 2, 1) := by decide +kernel
theorem d_q_writeEntries_46 : decode M_q_writeEntries.2.1 46 = .ok (.getfield 283, 3) := by decide +kernel
theorem d_q_writeEntries_49 : decode M_q_writeEntries.2.1 49 = .ok (.iload_n 3, 1) := by decide +kernel
theorem d_q_writeEntries_50 : decode M_q_writeEntries.2.1 50 = .ok (.iaload, 1) := by decide +kernel
theorem d_q_writeEntries_51 : decode M_q_writeEntries.2.1 51 = .ok (.bipush 100, 2) := by decide +kernel
theorem d_q_writeEntries_53 : decode M_q_writeEntries.2.1 53 = .ok (.iadd, 1) := by decide +kernel
theorem d_q_writeEntries_54 : decode M_q_writeEntries.2.1 54 = .ok (.invokevirtual 212, 3) := by decide +kernel
theorem d_q_writeEntries_57 : decode M_q_writeEntries.2.1 57 = .ok (.iinc 3 1, 3) := by decide +kernel
theorem d_q_writeEntries_60 : decode M_q_writeEntries.2.1 60 = .ok (.goto (-24), 3) := by decide +kernel
theorem d_q_writeEntries_63 : decode M_q_writeEntries.2.1 63 = .ok (.iinc 1 1, 3) := by decide +kernel
theorem d_q_writeEntries_66 : decode M_q_writeEntries.2.1 66 = .ok (.goto (-64), 3) := by decide +kernel
theorem d_q_writeEntries_69 : decode M_q_writeEntries.2.1 69 = .ok (.return_, 1) := by decide +kernel
theorem d_y_checkOf_0 : decode M_y_checkOf.2.1 0 = .ok (.iconst 0, 1) := by decide +kernel
theorem d_y_checkOf_1 : decode M_y_checkOf.2.1 1 = .ok (.istore_n 2, 1) := by decide +kernel
theorem d_y_checkOf_2 : decode M_y_checkOf.2.1 2 = .ok (.iconst 0, 1) := by decide +kernel
theorem d_y_checkOf_3 : decode M_y_checkOf.2.1 3 = .ok (.istore_n 3, 1) := by decide +kernel
theorem d_y_checkOf_4 : decode M_y_checkOf.2.1 4 = .ok (.iload_n 3, 1) := by decide +kernel
theorem d_y_checkOf_5 : decode M_y_checkOf.2.1 5 = .ok (.iload_n 1, 1) := by decide +kernel
theorem d_y_checkOf_6 : decode M_y_checkOf.2.1 6 = .ok (.if_icmp .ge 22, 3) := by decide +kernel
theorem d_y_checkOf_9 : decode M_y_checkOf.2.1 9 = .ok (.iload_n 2, 1) := by decide +kernel
theorem d_y_checkOf_10 : decode M_y_checkOf.2.1 10 = .ok (.aload_n 0, 1) := by decide +kernel
theorem d_y_checkOf_11 : decode M_y_checkOf.2.1 11 = .ok (.getfield 11, 3) := by decide +kernel
theorem d_y_checkOf_14 : decode M_y_checkOf.2.1 14 = .ok (.iload_n 3, 1) := by decide +kernel
theorem d_y_checkOf_15 : decode M_y_checkOf.2.1 15 = .ok (.iaload, 1) := by decide +kernel
theorem d_y_checkOf_16 : decode M_y_checkOf.2.1 16 = .ok (.iload_n 3, 1) := by decide +kernel
theorem d_y_checkOf_17 : decode M_y_checkOf.2.1 17 = .ok (.iconst 1, 1) := by decide +kernel
theorem d_y_checkOf_18 : decode M_y_checkOf.2.1 18 = .ok (.iadd, 1) := by decide +kernel
theorem d_y_checkOf_19 : decode M_y_checkOf.2.1 19 = .ok (.imul, 1) := by decide +kernel
theorem d_y_checkOf_20 : decode M_y_checkOf.2.1 20 = .ok (.iadd, 1) := by decide +kernel
theorem d_y_checkOf_21 : decode M_y_checkOf.2.1 21 = .ok (.istore_n 2, 1) := by decide +kernel
theorem d_y_checkOf_22 : decode M_y_checkOf.2.1 22 = .ok (.iinc 3 1, 3) := by decide +kernel
theorem d_y_checkOf_25 : decode M_y_checkOf.2.1 25 = .ok (.goto (-21), 3) := by decide +kernel
theorem d_y_checkOf_28 : decode M_y_checkOf.2.1 28 = .ok (.iload_n 2, 1) := by decide +kernel
theorem d_y_checkOf_29 : decode M_y_checkOf.2.1 29 = .ok (.sipush 251, 3) := by decide +kernel
theorem d_y_checkOf_32 : decode M_y_checkOf.2.1 32 = .ok (.irem, 1) := by decide +kernel
theorem d_y_checkOf_33 : decode M_y_checkOf.2.1 33 = .ok (.ireturn, 1) := by decide +kernel
theorem d_q_alter_0 : decode M_q_alter.2.1 0 = .ok (.iload_n 1, 1) := by decide +kernel
theorem d_q_alter_1 : decode M_q_alter.2.1 1 = .ok (.iconst 0, 1) := by decide +kernel
theorem d_q_alter_2 : decode M_q_alter.2.1 2 = .ok (.aload_n 0, 1) := by decide +kernel
theorem d_q_alter_3 : decode M_q_alter.2.1 3 = .ok (.getfield 54, 3) := by decide +kernel
theorem d_q_alter_6 : decode M_q_alter.2.1 6 = .ok (.getfield 194, 3) := by decide +kernel
theorem d_q_alter_9 : decode M_q_alter.2.1 9 = .ok (.invokestatic 86, 3) := by decide +kernel
theorem d_q_alter_12 : decode M_q_alter.2.1 12 = .ok (.ifCond .eq 21, 3) := by decide +kernel
theorem d_q_alter_15 : decode M_q_alter.2.1 15 = .ok (.iload_n 1, 1) := by decide +kernel
theorem d_q_alter_16 : decode M_q_alter.2.1 16 = .ok (.sipush 250, 3) := by decide +kernel
theorem d_q_alter_19 : decode M_q_alter.2.1 19 = .ok (.if_icmp .ge 14, 3) := by decide +kernel
theorem d_q_alter_22 : decode M_q_alter.2.1 22 = .ok (.iload_n 2, 1) := by decide +kernel
theorem d_q_alter_23 : decode M_q_alter.2.1 23 = .ok (.iconst 0, 1) := by decide +kernel
theorem d_q_alter_24 : decode M_q_alter.2.1 24 = .ok (.sipush 255, 3) := by decide +kernel
theorem d_q_alter_27 : decode M_q_alter.2.1 27 = .ok (.invokestatic 86, 3) := by decide +kernel
theorem d_q_alter_30 : decode M_q_alter.2.1 30 = .ok (.ifCond .ne 5, 3) := by decide +kernel
theorem d_q_alter_33 : decode M_q_alter.2.1 33 = .ok (.iconst 0, 1) := by decide +kernel
theorem d_q_alter_34 : decode M_q_alter.2.1 34 = .ok (.ireturn, 1) := by decide +kernel
theorem d_q_alter_35 : decode M_q_alter.2.1 35 = .ok (.aload_n 0, 1) := by decide +kernel
theorem d_q_alter_36 : decode M_q_alter.2.1 36 = .ok (.getfield 54, 3) := by decide +kernel
theorem d_q_alter_39 : decode M_q_alter.2.1 39 = .ok (.getfield 215, 3) := by decide +kernel
theorem d_q_alter_42 : decode M_q_alter.2.1 42 = .ok (.iload_n 1, 1) := by decide +kernel
theorem d_q_alter_43 : decode M_q_alter.2.1 43 = .ok (.iload_n 2, 1) := by decide +kernel
theorem d_q_alter_44 : decode M_q_alter.2.1 44 = .ok (.iastore, 1) := by decide +kernel
theorem d_q_alter_45 : decode M_q_alter.2.1 45 = .ok (.iload_n 1, 1) := by decide +kernel
theorem d_q_alter_46 : decode M_q_alter.2.1 46 = .ok (.aload_n 0, 1) := by decide +kernel
theorem d_q_alter_47 : decode M_q_alter.2.1 47 = .ok (.getfield 54, 3) := by decide +kernel
theorem d_q_alter_50 : decode M_q_alter.2.1 50 = .ok (.getfield 194, 3) := by decide +kernel
theorem d_q_alter_53 : decode M_q_alter.2.1 53 = .ok (.if_icmp .ne 16, 3) := by decide +kernel
theorem d_q_alter_56 : decode M_q_alter.2.1 56 = .ok (.aload_n 0, 1) := by decide +kernel
theorem d_q_alter_57 : decode M_q_alter.2.1 57 = .ok (.getfield 54, 3) := by decide +kernel
theorem d_q_alter_60 : decode M_q_alter.2.1 60 = .ok (.dup, 1) := by decide +kernel
theorem d_q_alter_61 : decode M_q_alter.2.1 61 = .ok (.getfield 194, 3) := by decide +kernel
theorem d_q_alter_64 : decode M_q_alter.2.1 64 = .ok (.iconst 1, 1) := by decide +kernel
theorem d_q_alter_65 : decode M_q_alter.2.1 65 = .ok (.iadd, 1) := by decide +kernel
theorem d_q_alter_66 : decode M_q_alter.2.1 66 = .ok (.putfield 194, 3) := by decide +kernel
theorem d_q_alter_69 : decode M_q_alter.2.1 69 = .ok (.iconst 1, 1) := by decide +kernel
theorem d_q_alter_70 : decode M_q_alter.2.1 70 = .ok (.ireturn, 1) := by decide +kernel
theorem d_q_cut_0 : decode M_q_cut.2.1 0 = .ok (.iload_n 1, 1) := by decide +kernel
theorem d_q_cut_1 : decode M_q_cut.2.1 1 = .ok (.iconst 0, 1) := by decide +kernel
theorem d_q_cut_2 : decode M_q_cut.2.1 2 = .ok (.aload_n 0, 1) := by decide +kernel
theorem d_q_cut_3 : decode M_q_cut.2.1 3 = .ok (.getfield 54, 3) := by decide +kernel
theorem d_q_cut_6 : decode M_q_cut.2.1 6 = .ok (.getfield 194, 3) := by decide +kernel
theorem d_q_cut_9 : decode M_q_cut.2.1 9 = .ok (.invokestatic 86, 3) := by decide +kernel
theorem d_q_cut_12 : decode M_q_cut.2.1 12 = .ok (.ifCond .ne 5, 3) := by decide +kernel
theorem d_q_cut_15 : decode M_q_cut.2.1 15 = .ok (.iconst 0, 1) := by decide +kernel
theorem d_q_cut_16 : decode M_q_cut.2.1 16 = .ok (.ireturn, 1) := by decide +kernel
theorem d_q_cut_17 : decode M_q_cut.2.1 17 = .ok (.aload_n 0, 1) := by decide +kernel
theorem d_q_cut_18 : decode M_q_cut.2.1 18 = .ok (.getfield 54, 3) := by decide +kernel
theorem d_q_cut_21 : decode M_q_cut.2.1 21 = .ok (.iload_n 1, 1) := by decide +kernel
theorem d_q_cut_22 : decode M_q_cut.2.1 22 = .ok (.putfield 194, 3) := by decide +kernel
theorem d_q_cut_25 : decode M_q_cut.2.1 25 = .ok (.iconst 1, 1) := by decide +kernel
theorem d_q_cut_26 : decode M_q_cut.2.1 26 = .ok (.ireturn, 1) := by decide +kernel
theorem d_q_byteAt_0 : decode M_q_byteAt.2.1 0 = .ok (.iload_n 1, 1) := by decide +kernel
theorem d_q_byteAt_1 : decode M_q_byteAt.2.1 1 = .ok (.iconst 0, 1) := by decide +kernel
theorem d_q_byteAt_2 : decode M_q_byteAt.2.1 2 = .ok (.aload_n 0, 1) := by decide +kernel
theorem d_q_byteAt_3 : decode M_q_byteAt.2.1 3 = .ok (.getfield 54, 3) := by decide +kernel
theorem d_q_byteAt_6 : decode M_q_byteAt.2.1 6 = .ok (.getfield 194, 3) := by decide +kernel
theorem d_q_byteAt_9 : decode M_q_byteAt.2.1 9 = .ok (.iconst 1, 1) := by decide +kernel
theorem d_q_byteAt_10 : decode M_q_byteAt.2.1 10 = .ok (.isub, 1) := by decide +kernel
theorem d_q_byteAt_11 : decode M_q_byteAt.2.1 11 = .ok (.invokestatic 86, 3) := by decide +kernel
theorem d_q_byteAt_14 : decode M_q_byteAt.2.1 14 = .ok (.ifCond .eq 15, 3) := by decide +kernel
theorem d_q_byteAt_17 : decode M_q_byteAt.2.1 17 = .ok (.aload_n 0, 1) := by decide +kernel
theorem d_q_byteAt_18 : decode M_q_byteAt.2.1 18 = .ok (.getfield 54, 3) := by decide +kernel
theorem d_q_byteAt_21 : decode M_q_byteAt.2.1 21 = .ok (.getfield 215, 3) := by decide +kernel
theorem d_q_byteAt_24 : decode M_q_byteAt.2.1 24 = .ok (.iload_n 1, 1) := by decide +kernel
theorem d_q_byteAt_25 : decode M_q_byteAt.2.1 25 = .ok (.iaload, 1) := by decide +kernel
theorem d_q_byteAt_26 : decode M_q_byteAt.2.1 26 = .ok (.goto 4, 3) := by decide +kernel
theorem d_q_byteAt_29 : decode M_q_byteAt.2.1 29 = .ok (.iconst (-1), 1) := by decide +kernel
theorem d_q_byteAt_30 : decode M_q_byteAt.2.1 30 = .ok (.ireturn, 1) := by decide +kernel
theorem d_q_load_0 : decode M_q_load.2.1 0 = .ok (.aload_n 0, 1) := by decide +kernel
theorem d_q_load_1 : decode M_q_load.2.1 1 = .ok (.getfield 54, 3) := by decide +kernel
theorem d_q_load_4 : decode M_q_load.2.1 4 = .ok (.invokevirtual 218, 3) := by decide +kernel
theorem d_q_load_7 : decode M_q_load.2.1 7 = .ok (.istore_n 1, 1) := by decide +kernel
theorem d_q_load_8 : decode M_q_load.2.1 8 = .ok (.iload_n 1, 1) := by decide +kernel
theorem d_q_load_9 : decode M_q_load.2.1 9 = .ok (.ifCond .eq 5, 3) := by decide +kernel
theorem d_q_load_12 : decode M_q_load.2.1 12 = .ok (.iload_n 1, 1) := by decide +kernel
theorem d_q_load_13 : decode M_q_load.2.1 13 = .ok (.ireturn, 1) := by decide +kernel
theorem d_q_load_14 : decode M_q_load.2.1 14 = .ok (.aload_n 0, 1) := by decide +kernel
theorem d_q_load_15 : decode M_q_load.2.1 15 = .ok (.invokevirtual 221, 3) := by decide +kernel
theorem d_q_load_18 : decode M_q_load.2.1 18 = .ok (.aload_n 0, 1) := by decide +kernel
theorem d_q_load_19 : decode M_q_load.2.1 19 = .ok (.invokevirtual 224, 3) := by decide +kernel
theorem d_q_load_22 : decode M_q_load.2.1 22 = .ok (.aload_n 0, 1) := by decide +kernel
theorem d_q_load_23 : decode M_q_load.2.1 23 = .ok (.invokevirtual 227, 3) := by decide +kernel
theorem d_q_load_26 : decode M_q_load.2.1 26 = .ok (.aload_n 0, 1) := by decide +kernel
theorem d_q_load_27 : decode M_q_load.2.1 27 = .ok (.invokevirtual 230, 3) := by decide +kernel
theorem d_q_load_30 : decode M_q_load.2.1 30 = .ok (.iconst 0, 1) := by decide +kernel
theorem d_q_load_31 : decode M_q_load.2.1 31 = .ok (.ireturn, 1) := by decide +kernel
theorem d_y_fault_0 : decode M_y_fault.2.1 0 = .ok (.aload_n 0, 1) := by decide +kernel
theorem d_y_fault_1 : decode M_y_fault.2.1 1 = .ok (.getfield 15, 3) := by decide +kernel
theorem d_y_fault_4 : decode M_y_fault.2.1 4 = .ok (.bipush 11, 2) := by decide +kernel
theorem d_y_fault_6 : decode M_y_fault.2.1 6 = .ok (.if_icmp .ge 5, 3) := by decide +kernel
theorem d_y_fault_9 : decode M_y_fault.2.1 9 = .ok (.iconst 1, 1) := by decide +kernel
theorem d_y_fault_10 : decode M_y_fault.2.1 10 = .ok (.ireturn, 1) := by decide +kernel
theorem d_y_fault_11 : decode M_y_fault.2.1 11 = .ok (.aload_n 0, 1) := by decide +kernel
theorem d_y_fault_12 : decode M_y_fault.2.1 12 = .ok (.getfield 11, 3) := by decide +kernel
theorem d_y_fault_15 : decode M_y_fault.2.1 15 = .ok (.iconst 0, 1) := by decide +kernel
theorem d_y_fault_16 : decode M_y_fault.2.1 16 = .ok (.iaload, 1) := by decide +kernel
theorem d_y_fault_17 : decode M_y_fault.2.1 17 = .ok (.bipush 86, 2) := by decide +kernel
end
section
theorem d_y_fault_19 : decode M_y_fault.2.1 19 = .ok (.if_icmp .eq 5, 3) := by decide +kernel
theorem d_y_fault_22 : decode M_y_fault.2.1 22 = .ok (.iconst 2, 1) := by decide +kernel
theorem d_y_fault_23 : decode M_y_fault.2.1 23 = .ok (.ireturn, 1) := by decide +kernel
theorem d_y_fault_24 : decode M_y_fault.2.1 24 = .ok (.aload_n 0, 1) := by decide +kernel
theorem d_y_fault_25 : decode M_y_fault.2.1 25 = .ok (.getfield 11, 3) := by decide +kernel
theorem d_y_fault_28 : decode M_y_fault.2.1 28 = .ok (.iconst 1, 1) := by decide +kernel
theorem d_y_fault_29 : decode M_y_fault.2.1 29 = .ok (.iaload, 1) := by decide +kernel
theorem d_y_fault_30 : decode M_y_fault.2.1 30 = .ok (.iconst 1, 1) := by decide +kernel
theorem d_y_fault_31 : decode M_y_fault.2.1 31 = .ok (.if_icmp .eq 5, 3) := by decide +kernel
theorem d_y_fault_34 : decode M_y_fault.2.1 34 = .ok (.iconst 3, 1) := by decide +kernel
theorem d_y_fault_35 : decode M_y_fault.2.1 35 = .ok (.ireturn, 1) := by decide +kernel
theorem d_y_fault_36 : decode M_y_fault.2.1 36 = .ok (.aload_n 0, 1) := by decide +kernel
theorem d_y_fault_37 : decode M_y_fault.2.1 37 = .ok (.invokevirtual 30, 3) := by decide +kernel
theorem d_y_fault_40 : decode M_y_fault.2.1 40 = .ok (.ifCond .ne 5, 3) := by decide +kernel
theorem d_y_fault_43 : decode M_y_fault.2.1 43 = .ok (.iconst 4, 1) := by decide +kernel
theorem d_y_fault_44 : decode M_y_fault.2.1 44 = .ok (.ireturn, 1) := by decide +kernel
theorem d_y_fault_45 : decode M_y_fault.2.1 45 = .ok (.aload_n 0, 1) := by decide +kernel
theorem d_y_fault_46 : decode M_y_fault.2.1 46 = .ok (.iconst 0, 1) := by decide +kernel
theorem d_y_fault_47 : decode M_y_fault.2.1 47 = .ok (.invokevirtual 34, 3) := by decide +kernel
theorem d_y_fault_50 : decode M_y_fault.2.1 50 = .ok (.aload_n 0, 1) := by decide +kernel
theorem d_y_fault_51 : decode M_y_fault.2.1 51 = .ok (.iconst 1, 1) := by decide +kernel
theorem d_y_fault_52 : decode M_y_fault.2.1 52 = .ok (.invokevirtual 34, 3) := by decide +kernel
theorem d_y_fault_55 : decode M_y_fault.2.1 55 = .ok (.aload_n 0, 1) := by decide +kernel
theorem d_y_fault_56 : decode M_y_fault.2.1 56 = .ok (.iconst 2, 1) := by decide +kernel
theorem d_y_fault_57 : decode M_y_fault.2.1 57 = .ok (.invokevirtual 34, 3) := by decide +kernel
theorem d_y_fault_60 : decode M_y_fault.2.1 60 = .ok (.aload_n 0, 1) := by decide +kernel
theorem d_y_fault_61 : decode M_y_fault.2.1 61 = .ok (.iconst 3, 1) := by decide +kernel
theorem d_y_fault_62 : decode M_y_fault.2.1 62 = .ok (.invokevirtual 34, 3) := by decide +kernel
theorem d_y_fault_65 : decode M_y_fault.2.1 65 = .ok (.invokestatic 37, 3) := by decide +kernel
theorem d_y_fault_68 : decode M_y_fault.2.1 68 = .ok (.ifCond .ne 5, 3) := by decide +kernel
theorem d_y_fault_71 : decode M_y_fault.2.1 71 = .ok (.iconst 5, 1) := by decide +kernel
theorem d_y_fault_72 : decode M_y_fault.2.1 72 = .ok (.ireturn, 1) := by decide +kernel
theorem d_y_fault_73 : decode M_y_fault.2.1 73 = .ok (.aload_n 0, 1) := by decide +kernel
theorem d_y_fault_74 : decode M_y_fault.2.1 74 = .ok (.getfield 15, 3) := by decide +kernel
theorem d_y_fault_77 : decode M_y_fault.2.1 77 = .ok (.aload_n 0, 1) := by decide +kernel
theorem d_y_fault_78 : decode M_y_fault.2.1 78 = .ok (.aload_n 0, 1) := by decide +kernel
theorem d_y_fault_79 : decode M_y_fault.2.1 79 = .ok (.getfield 11, 3) := by decide +kernel
theorem d_y_fault_82 : decode M_y_fault.2.1 82 = .ok (.iconst 5, 1) := by decide +kernel
theorem d_y_fault_83 : decode M_y_fault.2.1 83 = .ok (.iaload, 1) := by decide +kernel
theorem d_y_fault_84 : decode M_y_fault.2.1 84 = .ok (.invokevirtual 27, 3) := by decide +kernel
theorem d_y_fault_87 : decode M_y_fault.2.1 87 = .ok (.iconst 1, 1) := by decide +kernel
theorem d_y_fault_88 : decode M_y_fault.2.1 88 = .ok (.iadd, 1) := by decide +kernel
theorem d_y_fault_89 : decode M_y_fault.2.1 89 = .ok (.if_icmp .eq 6, 3) := by decide +kernel
theorem d_y_fault_92 : decode M_y_fault.2.1 92 = .ok (.bipush 6, 2) := by decide +kernel
theorem d_y_fault_94 : decode M_y_fault.2.1 94 = .ok (.ireturn, 1) := by decide +kernel
theorem d_y_fault_95 : decode M_y_fault.2.1 95 = .ok (.aload_n 0, 1) := by decide +kernel
theorem d_y_fault_96 : decode M_y_fault.2.1 96 = .ok (.getfield 11, 3) := by decide +kernel
theorem d_y_fault_99 : decode M_y_fault.2.1 99 = .ok (.aload_n 0, 1) := by decide +kernel
theorem d_y_fault_100 : decode M_y_fault.2.1 100 = .ok (.getfield 15, 3) := by decide +kernel
theorem d_y_fault_103 : decode M_y_fault.2.1 103 = .ok (.iconst 1, 1) := by decide +kernel
theorem d_y_fault_104 : decode M_y_fault.2.1 104 = .ok (.isub, 1) := by decide +kernel
theorem d_y_fault_105 : decode M_y_fault.2.1 105 = .ok (.iaload, 1) := by decide +kernel
theorem d_y_fault_106 : decode M_y_fault.2.1 106 = .ok (.aload_n 0, 1) := by decide +kernel
theorem d_y_fault_107 : decode M_y_fault.2.1 107 = .ok (.aload_n 0, 1) := by decide +kernel
theorem d_y_fault_108 : decode M_y_fault.2.1 108 = .ok (.getfield 15, 3) := by decide +kernel
theorem d_y_fault_111 : decode M_y_fault.2.1 111 = .ok (.iconst 1, 1) := by decide +kernel
theorem d_y_fault_112 : decode M_y_fault.2.1 112 = .ok (.isub, 1) := by decide +kernel
theorem d_y_fault_113 : decode M_y_fault.2.1 113 = .ok (.invokevirtual 43, 3) := by decide +kernel
theorem d_y_fault_116 : decode M_y_fault.2.1 116 = .ok (.if_icmp .eq 6, 3) := by decide +kernel
theorem d_y_fault_119 : decode M_y_fault.2.1 119 = .ok (.bipush 7, 2) := by decide +kernel
theorem d_y_fault_121 : decode M_y_fault.2.1 121 = .ok (.ireturn, 1) := by decide +kernel
theorem d_y_fault_122 : decode M_y_fault.2.1 122 = .ok (.aload_n 0, 1) := by decide +kernel
theorem d_y_fault_123 : decode M_y_fault.2.1 123 = .ok (.invokevirtual 46, 3) := by decide +kernel
theorem d_y_fault_126 : decode M_y_fault.2.1 126 = .ok (.ifCond .ne 6, 3) := by decide +kernel
theorem d_y_fault_129 : decode M_y_fault.2.1 129 = .ok (.bipush 8, 2) := by decide +kernel
theorem d_y_fault_131 : decode M_y_fault.2.1 131 = .ok (.ireturn, 1) := by decide +kernel
theorem d_y_fault_132 : decode M_y_fault.2.1 132 = .ok (.aload_n 0, 1) := by decide +kernel
theorem d_y_fault_133 : decode M_y_fault.2.1 133 = .ok (.invokevirtual 49, 3) := by decide +kernel
theorem d_y_fault_136 : decode M_y_fault.2.1 136 = .ok (.ifCond .eq 7, 3) := by decide +kernel
theorem d_y_fault_139 : decode M_y_fault.2.1 139 = .ok (.iconst 0, 1) := by decide +kernel
theorem d_y_fault_140 : decode M_y_fault.2.1 140 = .ok (.goto 5, 3) := by decide +kernel
theorem d_y_fault_143 : decode M_y_fault.2.1 143 = .ok (.bipush 9, 2) := by decide +kernel
theorem d_y_fault_145 : decode M_y_fault.2.1 145 = .ok (.ireturn, 1) := by decide +kernel
theorem d_y_hasSizes_0 : decode M_y_hasSizes.2.1 0 = .ok (.aload_n 0, 1) := by decide +kernel
theorem d_y_hasSizes_1 : decode M_y_hasSizes.2.1 1 = .ok (.getfield 11, 3) := by decide +kernel
theorem d_y_hasSizes_4 : decode M_y_hasSizes.2.1 4 = .ok (.iconst 2, 1) := by decide +kernel
theorem d_y_hasSizes_5 : decode M_y_hasSizes.2.1 5 = .ok (.iaload, 1) := by decide +kernel
theorem d_y_hasSizes_6 : decode M_y_hasSizes.2.1 6 = .ok (.iconst 0, 1) := by decide +kernel
theorem d_y_hasSizes_7 : decode M_y_hasSizes.2.1 7 = .ok (.iconst 2, 1) := by decide +kernel
theorem d_y_hasSizes_8 : decode M_y_hasSizes.2.1 8 = .ok (.invokestatic 52, 3) := by decide +kernel
theorem d_y_hasSizes_11 : decode M_y_hasSizes.2.1 11 = .ok (.ifCond .eq 50, 3) := by decide +kernel
theorem d_y_hasSizes_14 : decode M_y_hasSizes.2.1 14 = .ok (.aload_n 0, 1) := by decide +kernel
theorem d_y_hasSizes_15 : decode M_y_hasSizes.2.1 15 = .ok (.getfield 11, 3) := by decide +kernel
theorem d_y_hasSizes_18 : decode M_y_hasSizes.2.1 18 = .ok (.iconst 3, 1) := by decide +kernel
theorem d_y_hasSizes_19 : decode M_y_hasSizes.2.1 19 = .ok (.iaload, 1) := by decide +kernel
theorem d_y_hasSizes_20 : decode M_y_hasSizes.2.1 20 = .ok (.iconst 1, 1) := by decide +kernel
theorem d_y_hasSizes_21 : decode M_y_hasSizes.2.1 21 = .ok (.iconst 4, 1) := by decide +kernel
theorem d_y_hasSizes_22 : decode M_y_hasSizes.2.1 22 = .ok (.invokestatic 52, 3) := by decide +kernel
theorem d_y_hasSizes_25 : decode M_y_hasSizes.2.1 25 = .ok (.ifCond .eq 36, 3) := by decide +kernel
theorem d_y_hasSizes_28 : decode M_y_hasSizes.2.1 28 = .ok (.aload_n 0, 1) := by decide +kernel
theorem d_y_hasSizes_29 : decode M_y_hasSizes.2.1 29 = .ok (.getfield 11, 3) := by decide +kernel
theorem d_y_hasSizes_32 : decode M_y_hasSizes.2.1 32 = .ok (.iconst 4, 1) := by decide +kernel
theorem d_y_hasSizes_33 : decode M_y_hasSizes.2.1 33 = .ok (.iaload, 1) := by decide +kernel
theorem d_y_hasSizes_34 : decode M_y_hasSizes.2.1 34 = .ok (.iconst 1, 1) := by decide +kernel
theorem d_y_hasSizes_35 : decode M_y_hasSizes.2.1 35 = .ok (.iconst 4, 1) := by decide +kernel
theorem d_y_hasSizes_36 : decode M_y_hasSizes.2.1 36 = .ok (.invokestatic 52, 3) := by decide +kernel
theorem d_y_hasSizes_39 : decode M_y_hasSizes.2.1 39 = .ok (.ifCond .eq 22, 3) := by decide +kernel
theorem d_y_hasSizes_42 : decode M_y_hasSizes.2.1 42 = .ok (.aload_n 0, 1) := by decide +kernel
theorem d_y_hasSizes_43 : decode M_y_hasSizes.2.1 43 = .ok (.getfield 11, 3) := by decide +kernel
theorem d_y_hasSizes_46 : decode M_y_hasSizes.2.1 46 = .ok (.iconst 5, 1) := by decide +kernel
theorem d_y_hasSizes_47 : decode M_y_hasSizes.2.1 47 = .ok (.iaload, 1) := by decide +kernel
theorem d_y_hasSizes_48 : decode M_y_hasSizes.2.1 48 = .ok (.iconst 0, 1) := by decide +kernel
theorem d_y_hasSizes_49 : decode M_y_hasSizes.2.1 49 = .ok (.bipush 20, 2) := by decide +kernel
theorem d_y_hasSizes_51 : decode M_y_hasSizes.2.1 51 = .ok (.invokestatic 52, 3) := by decide +kernel
theorem d_y_hasSizes_54 : decode M_y_hasSizes.2.1 54 = .ok (.ifCond .eq 7, 3) := by decide +kernel
theorem d_y_hasSizes_57 : decode M_y_hasSizes.2.1 57 = .ok (.iconst 1, 1) := by decide +kernel
theorem d_y_hasSizes_58 : decode M_y_hasSizes.2.1 58 = .ok (.goto 4, 3) := by decide +kernel
theorem d_y_hasSizes_61 : decode M_y_hasSizes.2.1 61 = .ok (.iconst 0, 1) := by decide +kernel
theorem d_y_hasSizes_62 : decode M_y_hasSizes.2.1 62 = .ok (.ireturn, 1) := by decide +kernel
theorem d_y_step_0 : decode M_y_step.2.1 0 = .ok (.aload_n 0, 1) := by decide +kernel
theorem d_y_step_1 : decode M_y_step.2.1 1 = .ok (.getfield 11, 3) := by decide +kernel
theorem d_y_step_4 : decode M_y_step.2.1 4 = .ok (.bipush 6, 2) := by decide +kernel
theorem d_y_step_6 : decode M_y_step.2.1 6 = .ok (.iload_n 1, 1) := by decide +kernel
theorem d_y_step_7 : decode M_y_step.2.1 7 = .ok (.iadd, 1) := by decide +kernel
theorem d_y_step_8 : decode M_y_step.2.1 8 = .ok (.iaload, 1) := by decide +kernel
theorem d_y_step_9 : decode M_y_step.2.1 9 = .ok (.iconst 4, 1) := by decide +kernel
theorem d_y_step_10 : decode M_y_step.2.1 10 = .ok (.isub, 1) := by decide +kernel
theorem d_y_step_11 : decode M_y_step.2.1 11 = .ok (.ireturn, 1) := by decide +kernel
theorem d_y_entryStart_0 : decode M_y_entryStart.2.1 0 = .ok (.bipush 10, 2) := by decide +kernel
theorem d_y_entryStart_2 : decode M_y_entryStart.2.1 2 = .ok (.iconst 2, 1) := by decide +kernel
theorem d_y_entryStart_3 : decode M_y_entryStart.2.1 3 = .ok (.aload_n 0, 1) := by decide +kernel
theorem d_y_entryStart_4 : decode M_y_entryStart.2.1 4 = .ok (.invokevirtual 56, 3) := by decide +kernel
theorem d_y_entryStart_7 : decode M_y_entryStart.2.1 7 = .ok (.imul, 1) := by decide +kernel
theorem d_y_entryStart_8 : decode M_y_entryStart.2.1 8 = .ok (.iadd, 1) := by decide +kernel
theorem d_y_entryStart_9 : decode M_y_entryStart.2.1 9 = .ok (.bipush 6, 2) := by decide +kernel
theorem d_y_entryStart_11 : decode M_y_entryStart.2.1 11 = .ok (.iload_n 1, 1) := by decide +kernel
theorem d_y_entryStart_12 : decode M_y_entryStart.2.1 12 = .ok (.imul, 1) := by decide +kernel
theorem d_y_entryStart_13 : decode M_y_entryStart.2.1 13 = .ok (.iadd, 1) := by decide +kernel
theorem d_y_entryStart_14 : decode M_y_entryStart.2.1 14 = .ok (.ireturn, 1) := by decide +kernel
theorem d_y_wideCount_0 : decode M_y_wideCount.2.1 0 = .ok (.aload_n 0, 1) := by decide +kernel
theorem d_y_wideCount_1 : decode M_y_wideCount.2.1 1 = .ok (.getfield 11, 3) := by decide +kernel
theorem d_y_wideCount_4 : decode M_y_wideCount.2.1 4 = .ok (.iconst 2, 1) := by decide +kernel
theorem d_y_wideCount_5 : decode M_y_wideCount.2.1 5 = .ok (.iaload, 1) := by decide +kernel
theorem d_y_wideCount_6 : decode M_y_wideCount.2.1 6 = .ok (.iconst 2, 1) := by decide +kernel
theorem d_y_wideCount_7 : decode M_y_wideCount.2.1 7 = .ok (.if_icmp .ne 12, 3) := by decide +kernel
theorem d_y_wideCount_10 : decode M_y_wideCount.2.1 10 = .ok (.aload_n 0, 1) := by decide +kernel
theorem d_y_wideCount_11 : decode M_y_wideCount.2.1 11 = .ok (.getfield 11, 3) := by decide +kernel
theorem d_y_wideCount_14 : decode M_y_wideCount.2.1 14 = .ok (.iconst 3, 1) := by decide +kernel
theorem d_y_wideCount_15 : decode M_y_wideCount.2.1 15 = .ok (.iaload, 1) := by decide +kernel
theorem d_y_wideCount_16 : decode M_y_wideCount.2.1 16 = .ok (.goto 16, 3) := by decide +kernel
theorem d_y_wideCount_19 : decode M_y_wideCount.2.1 19 = .ok (.aload_n 0, 1) := by decide +kernel
theorem d_y_wideCount_20 : decode M_y_wideCount.2.1 20 = .ok (.getfield 11, 3) := by decide +kernel
theorem d_y_wideCount_23 : decode M_y_wideCount.2.1 23 = .ok (.iconst 3, 1) := by decide +kernel
theorem d_y_wideCount_24 : decode M_y_wideCount.2.1 24 = .ok (.iaload, 1) := by decide +kernel
theorem d_y_wideCount_25 : decode M_y_wideCount.2.1 25 = .ok (.aload_n 0, 1) := by decide +kernel
theorem d_y_wideCount_26 : decode M_y_wideCount.2.1 26 = .ok (.getfield 11, 3) := by decide +kernel
theorem d_y_wideCount_29 : decode M_y_wideCount.2.1 29 = .ok (.iconst 4, 1) := by decide +kernel
theorem d_y_wideCount_30 : decode M_y_wideCount.2.1 30 = .ok (.iaload, 1) := by decide +kernel
theorem d_y_wideCount_31 : decode M_y_wideCount.2.1 31 = .ok (.iadd, 1) := by decide +kernel
theorem d_y_wideCount_32 : decode M_y_wideCount.2.1 32 = .ok (.istore_n 1, 1) := by decide +kernel
theorem d_y_wideCount_33 : decode M_y_wideCount.2.1 33 = .ok (.iload_n 1, 1) := by decide +kernel
theorem d_y_wideCount_34 : decode M_y_wideCount.2.1 34 = .ok (.iconst 4, 1) := by decide +kernel
theorem d_y_wideCount_35 : decode M_y_wideCount.2.1 35 = .ok (.imul, 1) := by decide +kernel
theorem d_y_wideCount_36 : decode M_y_wideCount.2.1 36 = .ok (.ireturn, 1) := by decide +kernel
theorem d_y_hasWides_0 : decode M_y_hasWides.2.1 0 = .ok (.iconst 0, 1) := by decide +kernel
theorem d_y_hasWides_1 : decode M_y_hasWides.2.1 1 = .ok (.istore_n 1, 1) := by decide +kernel
theorem d_y_hasWides_2 : decode M_y_hasWides.2.1 2 = .ok (.iload_n 1, 1) := by decide +kernel
theorem d_y_hasWides_3 : decode M_y_hasWides.2.1 3 = .ok (.aload_n 0, 1) := by decide +kernel
theorem d_y_hasWides_4 : decode M_y_hasWides.2.1 4 = .ok (.invokevirtual 56, 3) := by decide +kernel
theorem d_y_hasWides_7 : decode M_y_hasWides.2.1 7 = .ok (.if_icmp .ge 22, 3) := by decide +kernel
theorem d_y_hasWides_10 : decode M_y_hasWides.2.1 10 = .ok (.aload_n 0, 1) := by decide +kernel
theorem d_y_hasWides_11 : decode M_y_hasWides.2.1 11 = .ok (.iload_n 1, 1) := by decide +kernel
theorem d_y_hasWides_12 : decode M_y_hasWides.2.1 12 = .ok (.invokevirtual 60, 3) := by decide +kernel
theorem d_y_hasWides_15 : decode M_y_hasWides.2.1 15 = .ok (.sipush 300, 3) := by decide +kernel
theorem d_y_hasWides_18 : decode M_y_hasWides.2.1 18 = .ok (.if_icmp .le 5, 3) := by decide +kernel
theorem d_y_hasWides_21 : decode M_y_hasWides.2.1 21 = .ok (.iconst 0, 1) := by decide +kernel
theorem d_y_hasWides_22 : decode M_y_hasWides.2.1 22 = .ok (.ireturn, 1) := by decide +kernel
theorem d_y_hasWides_23 : decode M_y_hasWides.2.1 23 = .ok (.iinc 1 1, 3) := by decide +kernel
theorem d_y_hasWides_26 : decode M_y_hasWides.2.1 26 = .ok (.goto (-24), 3) := by decide +kernel
theorem d_y_hasWides_29 : decode M_y_hasWides.2.1 29 = .ok (.iconst 1, 1) := by decide +kernel
theorem d_y_hasWides_30 : decode M_y_hasWides.2.1 30 = .ok (.ireturn, 1) := by decide +kernel
theorem d_y_wide_0 : decode M_y_wide.2.1 0 = .ok (.aload_n 0, 1) := by decide +kernel
theorem d_y_wide_1 : decode M_y_wide.2.1 1 = .ok (.bipush 10, 2) := by decide +kernel
theorem d_y_wide_3 : decode M_y_wide.2.1 3 = .ok (.iconst 2, 1) := by decide +kernel
theorem d_y_wide_4 : decode M_y_wide.2.1 4 = .ok (.iload_n 1, 1) := by decide +kernel
theorem d_y_wide_5 : decode M_y_wide.2.1 5 = .ok (.imul, 1) := by decide +kernel
theorem d_y_wide_6 : decode M_y_wide.2.1 6 = .ok (.iadd, 1) := by decide +kernel
theorem d_y_wide_7 : decode M_y_wide.2.1 7 = .ok (.invokevirtual 23, 3) := by decide +kernel
theorem d_y_wide_10 : decode M_y_wide.2.1 10 = .ok (.sipush 300, 3) := by decide +kernel
theorem d_y_wide_13 : decode M_y_wide.2.1 13 = .ok (.isub, 1) := by decide +kernel
theorem d_y_wide_14 : decode M_y_wide.2.1 14 = .ok (.ireturn, 1) := by decide +kernel
theorem d_y_pairAt_0 : decode M_y_pairAt.2.1 0 = .ok (.aload_n 0, 1) := by decide +kernel
theorem d_y_pairAt_1 : decode M_y_pairAt.2.1 1 = .ok (.getfield 11, 3) := by decide +kernel
theorem d_y_pairAt_4 : decode M_y_pairAt.2.1 4 = .ok (.iload_n 1, 1) := by decide +kernel
theorem d_y_pairAt_5 : decode M_y_pairAt.2.1 5 = .ok (.iaload, 1) := by decide +kernel
theorem d_y_pairAt_6 : decode M_y_pairAt.2.1 6 = .ok (.sipush 256, 3) := by decide +kernel
theorem d_y_pairAt_9 : decode M_y_pairAt.2.1 9 = .ok (.imul, 1) := by decide +kernel
theorem d_y_pairAt_10 : decode M_y_pairAt.2.1 10 = .ok (.aload_n 0, 1) := by decide +kernel
theorem d_y_pairAt_11 : decode M_y_pairAt.2.1 11 = .ok (.getfield 11, 3) := by decide +kernel
theorem d_y_pairAt_14 : decode M_y_pairAt.2.1 14 = .ok (.iload_n 1, 1) := by decide +kernel
theorem d_y_pairAt_15 : decode M_y_pairAt.2.1 15 = .ok (.iconst 1, 1) := by decide +kernel
theorem d_y_pairAt_16 : decode M_y_pairAt.2.1 16 = .ok (.iadd, 1) := by decide +kernel
theorem d_y_pairAt_17 : decode M_y_pairAt.2.1 17 = .ok (.iaload, 1) := by decide +kernel
theorem d_y_pairAt_18 : decode M_y_pairAt.2.1 18 = .ok (.iadd, 1) := by decide +kernel
theorem d_y_pairAt_19 : decode M_y_pairAt.2.1 19 = .ok (.ireturn, 1) := by decide +kernel
theorem d_y_hasEntries_0 : decode M_y_hasEntries.2.1 0 = .ok (.iconst (-1), 1) := by decide +kernel
theorem d_y_hasEntries_1 : decode M_y_hasEntries.2.1 1 = .ok (.istore_n 1, 1) := by decide +kernel
theorem d_y_hasEntries_2 : decode M_y_hasEntries.2.1 2 = .ok (.iconst 0, 1) := by decide +kernel
theorem d_y_hasEntries_3 : decode M_y_hasEntries.2.1 3 = .ok (.istore_n 2, 1) := by decide +kernel
theorem d_y_hasEntries_4 : decode M_y_hasEntries.2.1 4 = .ok (.iload_n 2, 1) := by decide +kernel
theorem d_y_hasEntries_5 : decode M_y_hasEntries.2.1 5 = .ok (.aload_n 0, 1) := by decide +kernel
theorem d_y_hasEntries_6 : decode M_y_hasEntries.2.1 6 = .ok (.getfield 11, 3) := by decide +kernel
theorem d_y_hasEntries_9 : decode M_y_hasEntries.2.1 9 = .ok (.iconst 5, 1) := by decide +kernel
theorem d_y_hasEntries_10 : decode M_y_hasEntries.2.1 10 = .ok (.iaload, 1) := by decide +kernel
theorem d_y_hasEntries_11 : decode M_y_hasEntries.2.1 11 = .ok (.if_icmp .ge 39, 3) := by decide +kernel
theorem d_y_hasEntries_14 : decode M_y_hasEntries.2.1 14 = .ok (.aload_n 0, 1) := by decide +kernel
theorem d_y_hasEntries_15 : decode M_y_hasEntries.2.1 15 = .ok (.iload_n 2, 1) := by decide +kernel
theorem d_y_hasEntries_16 : decode M_y_hasEntries.2.1 16 = .ok (.invokevirtual 63, 3) := by decide +kernel
theorem d_y_hasEntries_19 : decode M_y_hasEntries.2.1 19 = .ok (.istore_n 3, 1) := by decide +kernel
theorem d_y_hasEntries_20 : decode M_y_hasEntries.2.1 20 = .ok (.iload_n 3, 1) := by decide +kernel
theorem d_y_hasEntries_21 : decode M_y_hasEntries.2.1 21 = .ok (.sipush 999, 3) := by decide +kernel
theorem d_y_hasEntries_24 : decode M_y_hasEntries.2.1 24 = .ok (.if_icmp .gt 16, 3) := by decide +kernel
theorem d_y_hasEntries_27 : decode M_y_hasEntries.2.1 27 = .ok (.iload_n 3, 1) := by decide +kernel
theorem d_y_hasEntries_28 : decode M_y_hasEntries.2.1 28 = .ok (.iload_n 1, 1) := by decide +kernel
theorem d_y_hasEntries_29 : decode M_y_hasEntries.2.1 29 = .ok (.if_icmp .le 11, 3) := by decide +kernel
theorem d_y_hasEntries_32 : decode M_y_hasEntries.2.1 32 = .ok (.aload_n 0, 1) := by decide +kernel
theorem d_y_hasEntries_33 : decode M_y_hasEntries.2.1 33 = .ok (.iload_n 2, 1) := by decide +kernel
theorem d_y_hasEntries_34 : decode M_y_hasEntries.2.1 34 = .ok (.invokevirtual 66, 3) := by decide +kernel
theorem d_y_hasEntries_37 : decode M_y_hasEntries.2.1 37 = .ok (.ifCond .ne 5, 3) := by decide +kernel
theorem d_y_hasEntries_40 : decode M_y_hasEntries.2.1 40 = .ok (.iconst 0, 1) := by decide +kernel
theorem d_y_hasEntries_41 : decode M_y_hasEntries.2.1 41 = .ok (.ireturn, 1) := by decide +kernel
theorem d_y_hasEntries_42 : decode M_y_hasEntries.2.1 42 = .ok (.iload_n 3, 1) := by decide +kernel
theorem d_y_hasEntries_43 : decode M_y_hasEntries.2.1 43 = .ok (.istore_n 1, 1) := by decide +kernel
theorem d_y_hasEntries_44 : decode M_y_hasEntries.2.1 44 = .ok (.iinc 2 1, 3) := by decide +kernel
theorem d_y_hasEntries_47 : decode M_y_hasEntries.2.1 47 = .ok (.goto (-43), 3) := by decide +kernel
theorem d_y_hasEntries_50 : decode M_y_hasEntries.2.1 50 = .ok (.iconst 1, 1) := by decide +kernel
theorem d_y_hasEntries_51 : decode M_y_hasEntries.2.1 51 = .ok (.ireturn, 1) := by decide +kernel
theorem d_y_entryId_0 : decode M_y_entryId.2.1 0 = .ok (.aload_n 0, 1) := by decide +kernel
theorem d_y_entryId_1 : decode M_y_entryId.2.1 1 = .ok (.aload_n 0, 1) := by decide +kernel
theorem d_y_entryId_2 : decode M_y_entryId.2.1 2 = .ok (.iload_n 1, 1) := by decide +kernel
theorem d_y_entryId_3 : decode M_y_entryId.2.1 3 = .ok (.invokevirtual 27, 3) := by decide +kernel
theorem d_y_entryId_6 : decode M_y_entryId.2.1 6 = .ok (.invokevirtual 23, 3) := by decide +kernel
theorem d_y_entryId_9 : decode M_y_entryId.2.1 9 = .ok (.ireturn, 1) := by decide +kernel
theorem d_y_hasPoint_0 : decode M_y_hasPoint.2.1 0 = .ok (.iconst 0, 1) := by decide +kernel
theorem d_y_hasPoint_1 : decode M_y_hasPoint.2.1 1 = .ok (.istore_n 2, 1) := by decide +kernel
theorem d_y_hasPoint_2 : decode M_y_hasPoint.2.1 2 = .ok (.iload_n 2, 1) := by decide +kernel
theorem d_y_hasPoint_3 : decode M_y_hasPoint.2.1 3 = .ok (.iconst 4, 1) := by decide +kernel
theorem d_y_hasPoint_4 : decode M_y_hasPoint.2.1 4 = .ok (.if_icmp .ge 22, 3) := by decide +kernel
theorem d_y_hasPoint_7 : decode M_y_hasPoint.2.1 7 = .ok (.aload_n 0, 1) := by decide +kernel
theorem d_y_hasPoint_8 : decode M_y_hasPoint.2.1 8 = .ok (.iload_n 1, 1) := by decide +kernel
theorem d_y_hasPoint_9 : decode M_y_hasPoint.2.1 9 = .ok (.iload_n 2, 1) := by decide +kernel
theorem d_y_hasPoint_10 : decode M_y_hasPoint.2.1 10 = .ok (.invokevirtual 70, 3) := by decide +kernel
theorem d_y_hasPoint_13 : decode M_y_hasPoint.2.1 13 = .ok (.bipush 100, 2) := by decide +kernel
theorem d_y_hasPoint_15 : decode M_y_hasPoint.2.1 15 = .ok (.if_icmp .le 5, 3) := by decide +kernel
theorem d_y_hasPoint_18 : decode M_y_hasPoint.2.1 18 = .ok (.iconst 0, 1) := by decide +kernel
theorem d_y_hasPoint_19 : decode M_y_hasPoint.2.1 19 = .ok (.ireturn, 1) := by decide +kernel
theorem d_y_hasPoint_20 : decode M_y_hasPoint.2.1 20 = .ok (.iinc 2 1, 3) := by decide +kernel
theorem d_y_hasPoint_23 : decode M_y_hasPoint.2.1 23 = .ok (.goto (-21), 3) := by decide +kernel
theorem d_y_hasPoint_26 : decode M_y_hasPoint.2.1 26 = .ok (.iconst 1, 1) := by decide +kernel
theorem d_y_hasPoint_27 : decode M_y_hasPoint.2.1 27 = .ok (.ireturn, 1) := by decide +kernel
theorem d_y_entryCoordinate_0 : decode M_y_entryCoordinate.2.1 0 = .ok (.aload_n 0, 1) := by decide +kernel
theorem d_y_entryCoordinate_1 : decode M_y_entryCoordinate.2.1 1 = .ok (.getfield 11, 3) := by decide +kernel
theorem d_y_entryCoordinate_4 : decode M_y_entryCoordinate.2.1 4 = .ok (.aload_n 0, 1) := by decide +kernel
theorem d_y_entryCoordinate_5 : decode M_y_entryCoordinate.2.1 5 = .ok (.iload_n 1, 1) := by decide +kernel
theorem d_y_entryCoordinate_6 : decode M_y_entryCoordinate.2.1 6 = .ok (.invokevirtual 27, 3) := by decide +kernel
theorem d_y_entryCoordinate_9 : decode M_y_entryCoordinate.2.1 9 = .ok (.iconst 2, 1) := by decide +kernel
theorem d_y_entryCoordinate_10 : decode M_y_entryCoordinate.2.1 10 = .ok (.iadd, 1) := by decide +kernel
theorem d_y_entryCoordinate_11 : decode M_y_entryCoordinate.2.1 11 = .ok (.iload_n 2, 1) := by decide +kernel
theorem d_y_entryCoordinate_12 : decode M_y_entryCoordinate.2.1 12 = .ok (.iadd, 1) := by decide +kernel
theorem d_y_entryCoordinate_13 : decode M_y_entryCoordinate.2.1 13 = .ok (.iaload, 1) := by decide +kernel
theorem d_y_entryCoordinate_14 : decode M_y_entryCoordinate.2.1 14 = .ok (.bipush 100, 2) := by decide +kernel
theorem d_y_entryCoordinate_16 : decode M_y_entryCoordinate.2.1 16 = .ok (.isub, 1) := by decide +kernel
theorem d_y_entryCoordinate_17 : decode M_y_entryCoordinate.2.1 17 = .ok (.ireturn, 1) := by decide +kernel
theorem d_q_readHead_0 : decode M_q_readHead.2.1 0 = .ok (.aload_n 0, 1) := by decide +kernel
theorem d_q_readHead_1 : decode M_q_readHead.2.1 1 = .ok (.getfield 33, 3) := by decide +kernel
theorem d_q_readHead_4 : decode M_q_readHead.2.1 4 = .ok (.aload_n 0, 1) := by decide +kernel
theorem d_q_readHead_5 : decode M_q_readHead.2.1 5 = .ok (.getfield 54, 3) := by decide +kernel
theorem d_q_readHead_8 : decode M_q_readHead.2.1 8 = .ok (.getfield 215, 3) := by decide +kernel
theorem d_q_readHead_11 : decode M_q_readHead.2.1 11 = .ok (.iconst 2, 1) := by decide +kernel
theorem d_q_readHead_12 : decode M_q_readHead.2.1 12 = .ok (.iaload, 1) := by decide +kernel
theorem d_q_readHead_13 : decode M_q_readHead.2.1 13 = .ok (.aload_n 0, 1) := by decide +kernel
theorem d_q_readHead_14 : decode M_q_readHead.2.1 14 = .ok (.getfield 54, 3) := by decide +kernel
theorem d_q_readHead_17 : decode M_q_readHead.2.1 17 = .ok (.getfield 215, 3) := by decide +kernel
theorem d_q_readHead_20 : decode M_q_readHead.2.1 20 = .ok (.iconst 3, 1) := by decide +kernel
theorem d_q_readHead_21 : decode M_q_readHead.2.1 21 = .ok (.iaload, 1) := by decide +kernel
theorem d_q_readHead_22 : decode M_q_readHead.2.1 22 = .ok (.aload_n 0, 1) := by decide +kernel
theorem d_q_readHead_23 : decode M_q_readHead.2.1 23 = .ok (.getfield 54, 3) := by decide +kernel
theorem d_q_readHead_26 : decode M_q_readHead.2.1 26 = .ok (.getfield 215, 3) := by decide +kernel
theorem d_q_readHead_29 : decode M_q_readHead.2.1 29 = .ok (.iconst 4, 1) := by decide +kernel
theorem d_q_readHead_30 : decode M_q_readHead.2.1 30 = .ok (.iaload, 1) := by decide +kernel
theorem d_q_readHead_31 : decode M_q_readHead.2.1 31 = .ok (.invokevirtual 90, 3) := by decide +kernel
theorem d_q_readHead_34 : decode M_q_readHead.2.1 34 = .ok (.aload_n 0, 1) := by decide +kernel
theorem d_q_readHead_35 : decode M_q_readHead.2.1 35 = .ok (.getfield 10, 3) := by decide +kernel
theorem d_q_readHead_38 : decode M_q_readHead.2.1 38 = .ok (.aload_n 0, 1) := by decide +kernel
theorem d_q_readHead_39 : decode M_q_readHead.2.1 39 = .ok (.getfield 54, 3) := by decide +kernel
theorem d_q_readHead_42 : decode M_q_readHead.2.1 42 = .ok (.iconst 0, 1) := by decide +kernel
theorem d_q_readHead_43 : decode M_q_readHead.2.1 43 = .ok (.invokevirtual 300, 3) := by decide +kernel
theorem d_q_readHead_46 : decode M_q_readHead.2.1 46 = .ok (.aload_n 0, 1) := by decide +kernel
theorem d_q_readHead_47 : decode M_q_readHead.2.1 47 = .ok (.getfield 54, 3) := by decide +kernel
theorem d_q_readHead_50 : decode M_q_readHead.2.1 50 = .ok (.iconst 1, 1) := by decide +kernel
theorem d_q_readHead_51 : decode M_q_readHead.2.1 51 = .ok (.invokevirtual 300, 3) := by decide +kernel
theorem d_q_readHead_54 : decode M_q_readHead.2.1 54 = .ok (.aload_n 0, 1) := by decide +kernel
theorem d_q_readHead_55 : decode M_q_readHead.2.1 55 = .ok (.getfield 54, 3) := by decide +kernel
theorem d_q_readHead_58 : decode M_q_readHead.2.1 58 = .ok (.iconst 2, 1) := by decide +kernel
theorem d_q_readHead_59 : decode M_q_readHead.2.1 59 = .ok (.invokevirtual 300, 3) := by decide +kernel
theorem d_q_readHead_62 : decode M_q_readHead.2.1 62 = .ok (.aload_n 0, 1) := by decide +kernel
theorem d_q_readHead_63 : decode M_q_readHead.2.1 63 = .ok (.getfield 54, 3) := by decide +kernel
theorem d_q_readHead_66 : decode M_q_readHead.2.1 66 = .ok (.iconst 3, 1) := by decide +kernel
theorem d_q_readHead_67 : decode M_q_readHead.2.1 67 = .ok (.invokevirtual 300, 3) := by decide +kernel
theorem d_q_readHead_70 : decode M_q_readHead.2.1 70 = .ok (.invokevirtual 66, 3) := by decide +kernel
theorem d_q_readHead_73 : decode M_q_readHead.2.1 73 = .ok (.return_, 1) := by decide +kernel
theorem d_q_readCentres_0 : decode M_q_readCentres.2.1 0 = .ok (.iconst 0, 1) := by decide +kernel
theorem d_q_readCentres_1 : decode M_q_readCentres.2.1 1 = .ok (.istore_n 1, 1) := by decide +kernel
theorem d_q_readCentres_2 : decode M_q_readCentres.2.1 2 = .ok (.iload_n 1, 1) := by decide +kernel
theorem d_q_readCentres_3 : decode M_q_readCentres.2.1 3 = .ok (.aload_n 0, 1) := by decide +kernel
theorem d_q_readCentres_4 : decode M_q_readCentres.2.1 4 = .ok (.getfield 33, 3) := by decide +kernel
theorem d_q_readCentres_7 : decode M_q_readCentres.2.1 7 = .ok (.getfield 239, 3) := by decide +kernel
theorem d_q_readCentres_10 : decode M_q_readCentres.2.1 10 = .ok (.if_icmp .ge 45, 3) := by decide +kernel
theorem d_q_readCentres_13 : decode M_q_readCentres.2.1 13 = .ok (.iconst 0, 1) := by decide +kernel
theorem d_q_readCentres_14 : decode M_q_readCentres.2.1 14 = .ok (.istore_n 2, 1) := by decide +kernel
theorem d_q_readCentres_15 : decode M_q_readCentres.2.1 15 = .ok (.iload_n 2, 1) := by decide +kernel
theorem d_q_readCentres_16 : decode M_q_readCentres.2.1 16 = .ok (.iconst 4, 1) := by decide +kernel
theorem d_q_readCentres_17 : decode M_q_readCentres.2.1 17 = .ok (.if_icmp .ge 32, 3) := by decide +kernel
theorem d_q_readCentres_20 : decode M_q_readCentres.2.1 20 = .ok (.aload_n 0, 1) := by decide +kernel
theorem d_q_readCentres_21 : decode M_q_readCentres.2.1 21 = .ok (.getfield 33, 3) := by decide +kernel
theorem d_q_readCentres_24 : decode M_q_readCentres.2.1 24 = .ok (.getfield 111, 3) := by decide +kernel
theorem d_q_readCentres_27 : decode M_q_readCentres.2.1 27 = .ok (.iload_n 1, 1) := by decide +kernel
theorem d_q_readCentres_28 : decode M_q_readCentres.2.1 28 = .ok (.aaload, 1) := by decide +kernel
theorem d_q_readCentres_29 : decode M_q_readCentres.2.1 29 = .ok (.iload_n 2, 1) := by decide +kernel
theorem d_q_readCentres_30 : decode M_q_readCentres.2.1 30 = .ok (.aload_n 0, 1) := by decide +kernel
theorem d_q_readCentres_31 : decode M_q_readCentres.2.1 31 = .ok (.getfield 54, 3) := by decide +kernel
theorem d_q_readCentres_34 : decode M_q_readCentres.2.1 34 = .ok (.iload_n 1, 1) := by decide +kernel
theorem d_q_readCentres_35 : decode M_q_readCentres.2.1 35 = .ok (.iconst 4, 1) := by decide +kernel
theorem d_q_readCentres_36 : decode M_q_readCentres.2.1 36 = .ok (.imul, 1) := by decide +kernel
theorem d_q_readCentres_37 : decode M_q_readCentres.2.1 37 = .ok (.iload_n 2, 1) := by decide +kernel
theorem d_q_readCentres_38 : decode M_q_readCentres.2.1 38 = .ok (.iadd, 1) := by decide +kernel
theorem d_q_readCentres_39 : decode M_q_readCentres.2.1 39 = .ok (.invokevirtual 303, 3) := by decide +kernel
theorem d_q_readCentres_42 : decode M_q_readCentres.2.1 42 = .ok (.iastore, 1) := by decide +kernel
theorem d_q_readCentres_43 : decode M_q_readCentres.2.1 43 = .ok (.iinc 2 1, 3) := by decide +kernel
theorem d_q_readCentres_46 : decode M_q_readCentres.2.1 46 = .ok (.goto (-31), 3) := by decide +kernel
theorem d_q_readCentres_49 : decode M_q_readCentres.2.1 49 = .ok (.iinc 1 1, 3) := by decide +kernel
theorem d_q_readCentres_52 : decode M_q_readCentres.2.1 52 = .ok (.goto (-50), 3) := by decide +kernel
theorem d_q_readCentres_55 : decode M_q_readCentres.2.1 55 = .ok (.return_, 1) := by decide +kernel
theorem d_q_readWords_0 : decode M_q_readWords.2.1 0 = .ok (.aload_n 0, 1) := by decide +kernel
theorem d_q_readWords_1 : decode M_q_readWords.2.1 1 = .ok (.getfield 33, 3) := by decide +kernel
theorem d_q_readWords_4 : decode M_q_readWords.2.1 4 = .ok (.getfield 239, 3) := by decide +kernel
theorem d_q_readWords_7 : decode M_q_readWords.2.1 7 = .ok (.iconst 4, 1) := by decide +kernel
theorem d_q_readWords_8 : decode M_q_readWords.2.1 8 = .ok (.imul, 1) := by decide +kernel
theorem d_q_readWords_9 : decode M_q_readWords.2.1 9 = .ok (.istore_n 1, 1) := by decide +kernel
theorem d_q_readWords_10 : decode M_q_readWords.2.1 10 = .ok (.iconst 0, 1) := by decide +kernel
theorem d_q_readWords_11 : decode M_q_readWords.2.1 11 = .ok (.istore_n 2, 1) := by decide +kernel
theorem d_q_readWords_12 : decode M_q_readWords.2.1 12 = .ok (.iload_n 2, 1) := by decide +kernel
theorem d_q_readWords_13 : decode M_q_readWords.2.1 13 = .ok (.aload_n 0, 1) := by decide +kernel
theorem d_q_readWords_14 : decode M_q_readWords.2.1 14 = .ok (.getfield 33, 3) := by decide +kernel
theorem d_q_readWords_17 : decode M_q_readWords.2.1 17 = .ok (.getfield 118, 3) := by decide +kernel
theorem d_q_readWords_20 : decode M_q_readWords.2.1 20 = .ok (.invokestatic 257, 3) := by decide +kernel
theorem d_q_readWords_23 : decode M_q_readWords.2.1 23 = .ok (.if_icmp .ge 79, 3) := by decide +kernel
theorem d_q_readWords_26 : decode M_q_readWords.2.1 26 = .ok (.iconst 0, 1) := by decide +kernel
theorem d_q_readWords_27 : decode M_q_readWords.2.1 27 = .ok (.istore_n 3, 1) := by decide +kernel
theorem d_q_readWords_28 : decode M_q_readWords.2.1 28 = .ok (.iload_n 3, 1) := by decide +kernel
theorem d_q_readWords_29 : decode M_q_readWords.2.1 29 = .ok (.aload_n 0, 1) := by decide +kernel
theorem d_q_readWords_30 : decode M_q_readWords.2.1 30 = .ok (.getfield 33, 3) := by decide +kernel
theorem d_q_readWords_33 : decode M_q_readWords.2.1 33 = .ok (.getfield 260, 3) := by decide +kernel
theorem d_q_readWords_36 : decode M_q_readWords.2.1 36 = .ok (.if_icmp .ge 60, 3) := by decide +kernel
theorem d_q_readWords_39 : decode M_q_readWords.2.1 39 = .ok (.iconst 0, 1) := by decide +kernel
theorem d_q_readWords_40 : decode M_q_readWords.2.1 40 = .ok (.istore 4, 2) := by decide +kernel
theorem d_q_readWords_42 : decode M_q_readWords.2.1 42 = .ok (.iload 4, 2) := by decide +kernel
theorem d_q_readWords_44 : decode M_q_readWords.2.1 44 = .ok (.aload_n 0, 1) := by decide +kernel
theorem d_q_readWords_45 : decode M_q_readWords.2.1 45 = .ok (.getfield 33, 3) := by decide +kernel
theorem d_q_readWords_48 : decode M_q_readWords.2.1 48 = .ok (.getfield 118, 3) := by decide +kernel
theorem d_q_readWords_51 : decode M_q_readWords.2.1 51 = .ok (.invokestatic 121, 3) := by decide +kernel
theorem d_q_readWords_54 : decode M_q_readWords.2.1 54 = .ok (.if_icmp .ge 36, 3) := by decide +kernel
theorem d_q_readWords_57 : decode M_q_readWords.2.1 57 = .ok (.aload_n 0, 1) := by decide +kernel
theorem d_q_readWords_58 : decode M_q_readWords.2.1 58 = .ok (.getfield 33, 3) := by decide +kernel
theorem d_q_readWords_61 : decode M_q_readWords.2.1 61 = .ok (.getfield 125, 3) := by decide +kernel
theorem d_q_readWords_64 : decode M_q_readWords.2.1 64 = .ok (.iload_n 2, 1) := by decide +kernel
theorem d_q_readWords_65 : decode M_q_readWords.2.1 65 = .ok (.iload_n 3, 1) := by decide +kernel
theorem d_q_readWords_66 : decode M_q_readWords.2.1 66 = .ok (.invokestatic 128, 3) := by decide +kernel
theorem d_q_readWords_69 : decode M_q_readWords.2.1 69 = .ok (.aaload, 1) := by decide +kernel
theorem d_q_readWords_70 : decode M_q_readWords.2.1 70 = .ok (.iload 4, 2) := by decide +kernel
theorem d_q_readWords_72 : decode M_q_readWords.2.1 72 = .ok (.aload_n 0, 1) := by decide +kernel
theorem d_q_readWords_73 : decode M_q_readWords.2.1 73 = .ok (.getfield 54, 3) := by decide +kernel
theorem d_q_readWords_76 : decode M_q_readWords.2.1 76 = .ok (.iload_n 1, 1) := by decide +kernel
theorem d_q_readWords_77 : decode M_q_readWords.2.1 77 = .ok (.invokevirtual 303, 3) := by decide +kernel
theorem d_q_readWords_80 : decode M_q_readWords.2.1 80 = .ok (.iastore, 1) := by decide +kernel
theorem d_q_readWords_81 : decode M_q_readWords.2.1 81 = .ok (.iinc 1 1, 3) := by decide +kernel
theorem d_q_readWords_84 : decode M_q_readWords.2.1 84 = .ok (.iinc 4 1, 3) := by decide +kernel
theorem d_q_readWords_87 : decode M_q_readWords.2.1 87 = .ok (.goto (-45), 3) := by decide +kernel
theorem d_q_readWords_90 : decode M_q_readWords.2.1 90 = .ok (.iinc 3 1, 3) := by decide +kernel
theorem d_q_readWords_93 : decode M_q_readWords.2.1 93 = .ok (.goto (-65), 3) := by decide +kernel
theorem d_q_readWords_96 : decode M_q_readWords.2.1 96 = .ok (.iinc 2 1, 3) := by decide +kernel
theorem d_q_readWords_99 : decode M_q_readWords.2.1 99 = .ok (.goto (-87), 3) := by decide +kernel
theorem d_q_readWords_102 : decode M_q_readWords.2.1 102 = .ok (.return_, 1) := by decide +kernel
theorem d_q_readEntries_0 : decode M_q_readEntries.2.1 0 = .ok (.aload_n 0, 1) := by decide +kernel
theorem d_q_readEntries_1 : decode M_q_readEntries.2.1 1 = .ok (.getfield 40, 3) := by decide +kernel
theorem d_q_readEntries_4 : decode M_q_readEntries.2.1 4 = .ok (.iconst 0, 1) := by decide +kernel
theorem d_q_readEntries_5 : decode M_q_readEntries.2.1 5 = .ok (.putfield 85, 3) := by decide +kernel
theorem d_q_readEntries_8 : decode M_q_readEntries.2.1 8 = .ok (.iconst 0, 1) := by decide +kernel
theorem d_q_readEntries_9 : decode M_q_readEntries.2.1 9 = .ok (.istore_n 1, 1) := by decide +kernel
theorem d_q_readEntries_10 : decode M_q_readEntries.2.1 10 = .ok (.iload_n 1, 1) := by decide +kernel
theorem d_q_readEntries_11 : decode M_q_readEntries.2.1 11 = .ok (.aload_n 0, 1) := by decide +kernel
theorem d_q_readEntries_12 : decode M_q_readEntries.2.1 12 = .ok (.getfield 54, 3) := by decide +kernel
theorem d_q_readEntries_15 : decode M_q_readEntries.2.1 15 = .ok (.getfield 215, 3) := by decide +kernel
theorem d_q_readEntries_18 : decode M_q_readEntries.2.1 18 = .ok (.iconst 5, 1) := by decide +kernel
theorem d_q_readEntries_19 : decode M_q_readEntries.2.1 19 = .ok (.iaload, 1) := by decide +kernel
theorem d_q_readEntries_20 : decode M_q_readEntries.2.1 20 = .ok (.if_icmp .ge 58, 3) := by decide +kernel
theorem d_q_readEntries_23 : decode M_q_readEntries.2.1 23 = .ok (.aload_n 0, 1) := by decide +kernel
theorem d_q_readEntries_24 : decode M_q_readEntries.2.1 24 = .ok (.aload_n 0, 1) := by decide +kernel
theorem d_q_readEntries_25 : decode M_q_readEntries.2.1 25 = .ok (.getfield 54, 3) := by decide +kernel
theorem d_q_readEntries_28 : decode M_q_readEntries.2.1 28 = .ok (.iload_n 1, 1) := by decide +kernel
theorem d_q_readEntries_29 : decode M_q_readEntries.2.1 29 = .ok (.invokevirtual 306, 3) := by decide +kernel
theorem d_q_readEntries_32 : decode M_q_readEntries.2.1 32 = .ok (.aload_n 0, 1) := by decide +kernel
theorem d_q_readEntries_33 : decode M_q_readEntries.2.1 33 = .ok (.getfield 54, 3) := by decide +kernel
theorem d_q_readEntries_36 : decode M_q_readEntries.2.1 36 = .ok (.iload_n 1, 1) := by decide +kernel
theorem d_q_readEntries_37 : decode M_q_readEntries.2.1 37 = .ok (.iconst 0, 1) := by decide +kernel
theorem d_q_readEntries_38 : decode M_q_readEntries.2.1 38 = .ok (.invokevirtual 309, 3) := by decide +kernel
theorem d_q_readEntries_41 : decode M_q_readEntries.2.1 41 = .ok (.aload_n 0, 1) := by decide +kernel
theorem d_q_readEntries_42 : decode M_q_readEntries.2.1 42 = .ok (.getfield 54, 3) := by decide +kernel
theorem d_q_readEntries_45 : decode M_q_readEntries.2.1 45 = .ok (.iload_n 1, 1) := by decide +kernel
theorem d_q_readEntries_46 : decode M_q_readEntries.2.1 46 = .ok (.iconst 1, 1) := by decide +kernel
theorem d_q_readEntries_47 : decode M_q_readEntries.2.1 47 = .ok (.invokevirtual 309, 3) := by decide +kernel
theorem d_q_readEntries_50 : decode M_q_readEntries.2.1 50 = .ok (.aload_n 0, 1) := by decide +kernel
theorem d_q_readEntries_51 : decode M_q_readEntries.2.1 51 = .ok (.getfield 54, 3) := by decide +kernel
theorem d_q_readEntries_54 : decode M_q_readEntries.2.1 54 = .ok (.iload_n 1, 1) := by decide +kernel
theorem d_q_readEntries_55 : decode M_q_readEntries.2.1 55 = .ok (.iconst 2, 1) := by decide +kernel
theorem d_q_readEntries_56 : decode M_q_readEntries.2.1 56 = .ok (.invokevirtual 309, 3) := by decide +kernel
theorem d_q_readEntries_59 : decode M_q_readEntries.2.1 59 = .ok (.aload_n 0, 1) := by decide +kernel
theorem d_q_readEntries_60 : decode M_q_readEntries.2.1 60 = .ok (.getfield 54, 3) := by decide +kernel
theorem d_q_readEntries_63 : decode M_q_readEntries.2.1 63 = .ok (.iload_n 1, 1) := by decide +kernel
theorem d_q_readEntries_64 : decode M_q_readEntries.2.1 64 = .ok (.iconst 3, 1) := by decide +kernel
theorem d_q_readEntries_65 : decode M_q_readEntries.2.1 65 = .ok (.invokevirtual 309, 3) := by decide +kernel
theorem d_q_readEntries_68 : decode M_q_readEntries.2.1 68 = .ok (.invokevirtual 135, 3) := by decide +kernel
theorem d_q_readEntries_71 : decode M_q_readEntries.2.1 71 = .ok (.pop, 1) := by decide +kernel
theorem d_q_readEntries_72 : decode M_q_readEntries.2.1 72 = .ok (.iinc 1 1, 3) := by decide +kernel
theorem d_q_readEntries_75 : decode M_q_readEntries.2.1 75 = .ok (.goto (-65), 3) := by decide +kernel
theorem d_q_readEntries_78 : decode M_q_readEntries.2.1 78 = .ok (.return_, 1) := by decide +kernel
end
section
theorem d_m_turn_0 : decode M_m_turn.2.1 0 = .ok (.aload_n 0, 1) := by decide +kernel
theorem d_m_turn_1 : decode M_m_turn.2.1 1 = .ok (.getfield 92, 3) := by decide +kernel
theorem d_m_turn_4 : decode M_m_turn.2.1 4 = .ok (.ifCond .ne 14, 3) := by decide +kernel
theorem d_m_turn_7 : decode M_m_turn.2.1 7 = .ok (.iload_n 1, 1) := by decide +kernel
theorem d_m_turn_8 : decode M_m_turn.2.1 8 = .ok (.iload_n 2, 1) := by decide +kernel
theorem d_m_turn_9 : decode M_m_turn.2.1 9 = .ok (.iload_n 3, 1) := by decide +kernel
theorem d_m_turn_10 : decode M_m_turn.2.1 10 = .ok (.iload 4, 2) := by decide +kernel
theorem d_m_turn_12 : decode M_m_turn.2.1 12 = .ok (.invokestatic 96, 3) := by decide +kernel
theorem d_m_turn_15 : decode M_m_turn.2.1 15 = .ok (.ifCond .ne 5, 3) := by decide +kernel
theorem d_m_turn_18 : decode M_m_turn.2.1 18 = .ok (.iconst 0, 1) := by decide +kernel
theorem d_m_turn_19 : decode M_m_turn.2.1 19 = .ok (.ireturn, 1) := by decide +kernel
theorem d_m_turn_20 : decode M_m_turn.2.1 20 = .ok (.aload_n 0, 1) := by decide +kernel
theorem d_m_turn_21 : decode M_m_turn.2.1 21 = .ok (.getfield 7, 3) := by decide +kernel
theorem d_m_turn_24 : decode M_m_turn.2.1 24 = .ok (.iconst 0, 1) := by decide +kernel
theorem d_m_turn_25 : decode M_m_turn.2.1 25 = .ok (.iload_n 1, 1) := by decide +kernel
theorem d_m_turn_26 : decode M_m_turn.2.1 26 = .ok (.iastore, 1) := by decide +kernel
theorem d_m_turn_27 : decode M_m_turn.2.1 27 = .ok (.aload_n 0, 1) := by decide +kernel
theorem d_m_turn_28 : decode M_m_turn.2.1 28 = .ok (.getfield 7, 3) := by decide +kernel
theorem d_m_turn_31 : decode M_m_turn.2.1 31 = .ok (.iconst 1, 1) := by decide +kernel
theorem d_m_turn_32 : decode M_m_turn.2.1 32 = .ok (.iload_n 2, 1) := by decide +kernel
theorem d_m_turn_33 : decode M_m_turn.2.1 33 = .ok (.iastore, 1) := by decide +kernel
theorem d_m_turn_34 : decode M_m_turn.2.1 34 = .ok (.aload_n 0, 1) := by decide +kernel
theorem d_m_turn_35 : decode M_m_turn.2.1 35 = .ok (.getfield 7, 3) := by decide +kernel
theorem d_m_turn_38 : decode M_m_turn.2.1 38 = .ok (.iconst 2, 1) := by decide +kernel
theorem d_m_turn_39 : decode M_m_turn.2.1 39 = .ok (.iload_n 3, 1) := by decide +kernel
theorem d_m_turn_40 : decode M_m_turn.2.1 40 = .ok (.iastore, 1) := by decide +kernel
theorem d_m_turn_41 : decode M_m_turn.2.1 41 = .ok (.aload_n 0, 1) := by decide +kernel
theorem d_m_turn_42 : decode M_m_turn.2.1 42 = .ok (.getfield 7, 3) := by decide +kernel
theorem d_m_turn_45 : decode M_m_turn.2.1 45 = .ok (.iconst 3, 1) := by decide +kernel
theorem d_m_turn_46 : decode M_m_turn.2.1 46 = .ok (.iload 4, 2) := by decide +kernel
theorem d_m_turn_48 : decode M_m_turn.2.1 48 = .ok (.iastore, 1) := by decide +kernel
theorem d_m_turn_49 : decode M_m_turn.2.1 49 = .ok (.iconst 1, 1) := by decide +kernel
theorem d_m_turn_50 : decode M_m_turn.2.1 50 = .ok (.ireturn, 1) := by decide +kernel
theorem d_m_isTurn_0 : decode M_m_isTurn.2.1 0 = .ok (.iload_n 0, 1) := by decide +kernel
theorem d_m_isTurn_1 : decode M_m_isTurn.2.1 1 = .ok (.invokestatic 81, 3) := by decide +kernel
theorem d_m_isTurn_4 : decode M_m_isTurn.2.1 4 = .ok (.iload_n 1, 1) := by decide +kernel
theorem d_m_isTurn_5 : decode M_m_isTurn.2.1 5 = .ok (.invokestatic 81, 3) := by decide +kernel
theorem d_m_isTurn_8 : decode M_m_isTurn.2.1 8 = .ok (.ior, 1) := by decide +kernel
theorem d_m_isTurn_9 : decode M_m_isTurn.2.1 9 = .ok (.iload_n 2, 1) := by decide +kernel
theorem d_m_isTurn_10 : decode M_m_isTurn.2.1 10 = .ok (.invokestatic 81, 3) := by decide +kernel
theorem d_m_isTurn_13 : decode M_m_isTurn.2.1 13 = .ok (.ior, 1) := by decide +kernel
theorem d_m_isTurn_14 : decode M_m_isTurn.2.1 14 = .ok (.iload_n 3, 1) := by decide +kernel
theorem d_m_isTurn_15 : decode M_m_isTurn.2.1 15 = .ok (.invokestatic 81, 3) := by decide +kernel
theorem d_m_isTurn_18 : decode M_m_isTurn.2.1 18 = .ok (.ior, 1) := by decide +kernel
theorem d_m_isTurn_19 : decode M_m_isTurn.2.1 19 = .ok (.bipush 30, 2) := by decide +kernel
theorem d_m_isTurn_21 : decode M_m_isTurn.2.1 21 = .ok (.if_icmp .ne 7, 3) := by decide +kernel
theorem d_m_isTurn_24 : decode M_m_isTurn.2.1 24 = .ok (.iconst 1, 1) := by decide +kernel
theorem d_m_isTurn_25 : decode M_m_isTurn.2.1 25 = .ok (.goto 4, 3) := by decide +kernel
theorem d_m_isTurn_28 : decode M_m_isTurn.2.1 28 = .ok (.iconst 0, 1) := by decide +kernel
theorem d_m_isTurn_29 : decode M_m_isTurn.2.1 29 = .ok (.ireturn, 1) := by decide +kernel
theorem d_m_bit_0 : decode M_m_bit.2.1 0 = .ok (.iload_n 0, 1) := by decide +kernel
theorem d_m_bit_1 : decode M_m_bit.2.1 1 = .ok (.iconst 1, 1) := by decide +kernel
theorem d_m_bit_2 : decode M_m_bit.2.1 2 = .ok (.if_icmp .lt 14, 3) := by decide +kernel
theorem d_m_bit_5 : decode M_m_bit.2.1 5 = .ok (.iload_n 0, 1) := by decide +kernel
theorem d_m_bit_6 : decode M_m_bit.2.1 6 = .ok (.iconst 4, 1) := by decide +kernel
theorem d_m_bit_7 : decode M_m_bit.2.1 7 = .ok (.if_icmp .gt 9, 3) := by decide +kernel
theorem d_m_bit_10 : decode M_m_bit.2.1 10 = .ok (.iconst 1, 1) := by decide +kernel
theorem d_m_bit_11 : decode M_m_bit.2.1 11 = .ok (.iload_n 0, 1) := by decide +kernel
theorem d_m_bit_12 : decode M_m_bit.2.1 12 = .ok (.ishl, 1) := by decide +kernel
theorem d_m_bit_13 : decode M_m_bit.2.1 13 = .ok (.goto 22, 3) := by decide +kernel
theorem d_m_bit_16 : decode M_m_bit.2.1 16 = .ok (.iload_n 0, 1) := by decide +kernel
theorem d_m_bit_17 : decode M_m_bit.2.1 17 = .ok (.iconst (-1), 1) := by decide +kernel
theorem d_m_bit_18 : decode M_m_bit.2.1 18 = .ok (.if_icmp .gt 16, 3) := by decide +kernel
theorem d_m_bit_21 : decode M_m_bit.2.1 21 = .ok (.iload_n 0, 1) := by decide +kernel
theorem d_m_bit_22 : decode M_m_bit.2.1 22 = .ok (.bipush (-4), 2) := by decide +kernel
theorem d_m_bit_24 : decode M_m_bit.2.1 24 = .ok (.if_icmp .lt 10, 3) := by decide +kernel
theorem d_m_bit_27 : decode M_m_bit.2.1 27 = .ok (.iconst 1, 1) := by decide +kernel
theorem d_m_bit_28 : decode M_m_bit.2.1 28 = .ok (.iload_n 0, 1) := by decide +kernel
theorem d_m_bit_29 : decode M_m_bit.2.1 29 = .ok (.ineg, 1) := by decide +kernel
theorem d_m_bit_30 : decode M_m_bit.2.1 30 = .ok (.ishl, 1) := by decide +kernel
theorem d_m_bit_31 : decode M_m_bit.2.1 31 = .ok (.goto 4, 3) := by decide +kernel
theorem d_m_bit_34 : decode M_m_bit.2.1 34 = .ok (.iconst 0, 1) := by decide +kernel
theorem d_m_bit_35 : decode M_m_bit.2.1 35 = .ok (.ireturn, 1) := by decide +kernel
theorem d_m_sample_0 : decode M_m_sample.2.1 0 = .ok (.aload_n 0, 1) := by decide +kernel
theorem d_m_sample_1 : decode M_m_sample.2.1 1 = .ok (.iload_n 1, 1) := by decide +kernel
theorem d_m_sample_2 : decode M_m_sample.2.1 2 = .ok (.iload_n 2, 1) := by decide +kernel
theorem d_m_sample_3 : decode M_m_sample.2.1 3 = .ok (.iload_n 3, 1) := by decide +kernel
theorem d_m_sample_4 : decode M_m_sample.2.1 4 = .ok (.iload 4, 2) := by decide +kernel
theorem d_m_sample_6 : decode M_m_sample.2.1 6 = .ok (.invokevirtual 100, 3) := by decide +kernel
theorem d_m_sample_9 : decode M_m_sample.2.1 9 = .ok (.ifCond .eq 12, 3) := by decide +kernel
theorem d_m_sample_12 : decode M_m_sample.2.1 12 = .ok (.aload_n 0, 1) := by decide +kernel
theorem d_m_sample_13 : decode M_m_sample.2.1 13 = .ok (.getfield 103, 3) := by decide +kernel
theorem d_m_sample_16 : decode M_m_sample.2.1 16 = .ok (.bipush 24, 2) := by decide +kernel
theorem d_m_sample_18 : decode M_m_sample.2.1 18 = .ok (.if_icmp .ne 5, 3) := by decide +kernel
theorem d_m_sample_21 : decode M_m_sample.2.1 21 = .ok (.iconst 0, 1) := by decide +kernel
theorem d_m_sample_22 : decode M_m_sample.2.1 22 = .ok (.ireturn, 1) := by decide +kernel
theorem d_m_sample_23 : decode M_m_sample.2.1 23 = .ok (.iconst 0, 1) := by decide +kernel
theorem d_m_sample_24 : decode M_m_sample.2.1 24 = .ok (.istore 5, 2) := by decide +kernel
theorem d_m_sample_26 : decode M_m_sample.2.1 26 = .ok (.iload 5, 2) := by decide +kernel
theorem d_m_sample_28 : decode M_m_sample.2.1 28 = .ok (.iconst 4, 1) := by decide +kernel
theorem d_m_sample_29 : decode M_m_sample.2.1 29 = .ok (.if_icmp .ge 30, 3) := by decide +kernel
theorem d_m_sample_32 : decode M_m_sample.2.1 32 = .ok (.aload_n 0, 1) := by decide +kernel
theorem d_m_sample_33 : decode M_m_sample.2.1 33 = .ok (.getfield 13, 3) := by decide +kernel
theorem d_m_sample_36 : decode M_m_sample.2.1 36 = .ok (.iconst 4, 1) := by decide +kernel
theorem d_m_sample_37 : decode M_m_sample.2.1 37 = .ok (.aload_n 0, 1) := by decide +kernel
theorem d_m_sample_38 : decode M_m_sample.2.1 38 = .ok (.getfield 103, 3) := by decide +kernel
theorem d_m_sample_41 : decode M_m_sample.2.1 41 = .ok (.imul, 1) := by decide +kernel
theorem d_m_sample_42 : decode M_m_sample.2.1 42 = .ok (.iload 5, 2) := by decide +kernel
theorem d_m_sample_44 : decode M_m_sample.2.1 44 = .ok (.iadd, 1) := by decide +kernel
theorem d_m_sample_45 : decode M_m_sample.2.1 45 = .ok (.aload_n 0, 1) := by decide +kernel
theorem d_m_sample_46 : decode M_m_sample.2.1 46 = .ok (.getfield 38, 3) := by decide +kernel
theorem d_m_sample_49 : decode M_m_sample.2.1 49 = .ok (.iload 5, 2) := by decide +kernel
theorem d_m_sample_51 : decode M_m_sample.2.1 51 = .ok (.iaload, 1) := by decide +kernel
theorem d_m_sample_52 : decode M_m_sample.2.1 52 = .ok (.iastore, 1) := by decide +kernel
theorem d_m_sample_53 : decode M_m_sample.2.1 53 = .ok (.iinc 5 1, 3) := by decide +kernel
theorem d_m_sample_56 : decode M_m_sample.2.1 56 = .ok (.goto (-30), 3) := by decide +kernel
theorem d_m_sample_59 : decode M_m_sample.2.1 59 = .ok (.aload_n 0, 1) := by decide +kernel
theorem d_m_sample_60 : decode M_m_sample.2.1 60 = .ok (.dup, 1) := by decide +kernel
theorem d_m_sample_61 : decode M_m_sample.2.1 61 = .ok (.getfield 103, 3) := by decide +kernel
theorem d_m_sample_64 : decode M_m_sample.2.1 64 = .ok (.iconst 1, 1) := by decide +kernel
theorem d_m_sample_65 : decode M_m_sample.2.1 65 = .ok (.iadd, 1) := by decide +kernel
theorem d_m_sample_66 : decode M_m_sample.2.1 66 = .ok (.putfield 103, 3) := by decide +kernel
theorem d_m_sample_69 : decode M_m_sample.2.1 69 = .ok (.iconst 1, 1) := by decide +kernel
theorem d_m_sample_70 : decode M_m_sample.2.1 70 = .ok (.ireturn, 1) := by decide +kernel
theorem d_m_give_0 : decode M_m_give.2.1 0 = .ok (.aload_n 0, 1) := by decide +kernel
theorem d_m_give_1 : decode M_m_give.2.1 1 = .ok (.getfield 38, 3) := by decide +kernel
theorem d_m_give_4 : decode M_m_give.2.1 4 = .ok (.iconst 0, 1) := by decide +kernel
theorem d_m_give_5 : decode M_m_give.2.1 5 = .ok (.iload_n 1, 1) := by decide +kernel
theorem d_m_give_6 : decode M_m_give.2.1 6 = .ok (.iastore, 1) := by decide +kernel
theorem d_m_give_7 : decode M_m_give.2.1 7 = .ok (.aload_n 0, 1) := by decide +kernel
theorem d_m_give_8 : decode M_m_give.2.1 8 = .ok (.getfield 38, 3) := by decide +kernel
theorem d_m_give_11 : decode M_m_give.2.1 11 = .ok (.iconst 1, 1) := by decide +kernel
theorem d_m_give_12 : decode M_m_give.2.1 12 = .ok (.iload_n 2, 1) := by decide +kernel
theorem d_m_give_13 : decode M_m_give.2.1 13 = .ok (.iastore, 1) := by decide +kernel
theorem d_m_give_14 : decode M_m_give.2.1 14 = .ok (.aload_n 0, 1) := by decide +kernel
theorem d_m_give_15 : decode M_m_give.2.1 15 = .ok (.getfield 38, 3) := by decide +kernel
theorem d_m_give_18 : decode M_m_give.2.1 18 = .ok (.iconst 2, 1) := by decide +kernel
theorem d_m_give_19 : decode M_m_give.2.1 19 = .ok (.iload_n 3, 1) := by decide +kernel
theorem d_m_give_20 : decode M_m_give.2.1 20 = .ok (.iastore, 1) := by decide +kernel
theorem d_m_give_21 : decode M_m_give.2.1 21 = .ok (.aload_n 0, 1) := by decide +kernel
theorem d_m_give_22 : decode M_m_give.2.1 22 = .ok (.getfield 38, 3) := by decide +kernel
theorem d_m_give_25 : decode M_m_give.2.1 25 = .ok (.iconst 3, 1) := by decide +kernel
theorem d_m_give_26 : decode M_m_give.2.1 26 = .ok (.iload 4, 2) := by decide +kernel
theorem d_m_give_28 : decode M_m_give.2.1 28 = .ok (.iastore, 1) := by decide +kernel
theorem d_m_give_29 : decode M_m_give.2.1 29 = .ok (.iload_n 1, 1) := by decide +kernel
theorem d_m_give_30 : decode M_m_give.2.1 30 = .ok (.bipush (-100), 2) := by decide +kernel
theorem d_m_give_32 : decode M_m_give.2.1 32 = .ok (.bipush 100, 2) := by decide +kernel
theorem d_m_give_34 : decode M_m_give.2.1 34 = .ok (.invokestatic 85, 3) := by decide +kernel
theorem d_m_give_37 : decode M_m_give.2.1 37 = .ok (.ifCond .eq 41, 3) := by decide +kernel
theorem d_m_give_40 : decode M_m_give.2.1 40 = .ok (.iload_n 2, 1) := by decide +kernel
theorem d_m_give_41 : decode M_m_give.2.1 41 = .ok (.bipush (-100), 2) := by decide +kernel
theorem d_m_give_43 : decode M_m_give.2.1 43 = .ok (.bipush 100, 2) := by decide +kernel
theorem d_m_give_45 : decode M_m_give.2.1 45 = .ok (.invokestatic 85, 3) := by decide +kernel
theorem d_m_give_48 : decode M_m_give.2.1 48 = .ok (.ifCond .eq 30, 3) := by decide +kernel
theorem d_m_give_51 : decode M_m_give.2.1 51 = .ok (.iload_n 3, 1) := by decide +kernel
theorem d_m_give_52 : decode M_m_give.2.1 52 = .ok (.bipush (-100), 2) := by decide +kernel
theorem d_m_give_54 : decode M_m_give.2.1 54 = .ok (.bipush 100, 2) := by decide +kernel
theorem d_m_give_56 : decode M_m_give.2.1 56 = .ok (.invokestatic 85, 3) := by decide +kernel
theorem d_m_give_59 : decode M_m_give.2.1 59 = .ok (.ifCond .eq 19, 3) := by decide +kernel
theorem d_m_give_62 : decode M_m_give.2.1 62 = .ok (.iload 4, 2) := by decide +kernel
theorem d_m_give_64 : decode M_m_give.2.1 64 = .ok (.bipush (-100), 2) := by decide +kernel
theorem d_m_give_66 : decode M_m_give.2.1 66 = .ok (.bipush 100, 2) := by decide +kernel
theorem d_m_give_68 : decode M_m_give.2.1 68 = .ok (.invokestatic 85, 3) := by decide +kernel
theorem d_m_give_71 : decode M_m_give.2.1 71 = .ok (.ifCond .eq 7, 3) := by decide +kernel
theorem d_m_give_74 : decode M_m_give.2.1 74 = .ok (.iconst 1, 1) := by decide +kernel
theorem d_m_give_75 : decode M_m_give.2.1 75 = .ok (.goto 4, 3) := by decide +kernel
theorem d_m_give_78 : decode M_m_give.2.1 78 = .ok (.iconst 0, 1) := by decide +kernel
theorem d_m_give_79 : decode M_m_give.2.1 79 = .ok (.ireturn, 1) := by decide +kernel
theorem d_m_within_0 : decode M_m_within.2.1 0 = .ok (.iload_n 0, 1) := by decide +kernel
theorem d_m_within_1 : decode M_m_within.2.1 1 = .ok (.iload_n 1, 1) := by decide +kernel
theorem d_m_within_2 : decode M_m_within.2.1 2 = .ok (.if_icmp .lt 12, 3) := by decide +kernel
theorem d_m_within_5 : decode M_m_within.2.1 5 = .ok (.iload_n 0, 1) := by decide +kernel
theorem d_m_within_6 : decode M_m_within.2.1 6 = .ok (.iload_n 2, 1) := by decide +kernel
theorem d_m_within_7 : decode M_m_within.2.1 7 = .ok (.if_icmp .gt 7, 3) := by decide +kernel
theorem d_m_within_10 : decode M_m_within.2.1 10 = .ok (.iconst 1, 1) := by decide +kernel
theorem d_m_within_11 : decode M_m_within.2.1 11 = .ok (.goto 4, 3) := by decide +kernel
theorem d_m_within_14 : decode M_m_within.2.1 14 = .ok (.iconst 0, 1) := by decide +kernel
theorem d_m_within_15 : decode M_m_within.2.1 15 = .ok (.ireturn, 1) := by decide +kernel
theorem d_m_train_0 : decode M_m_train.2.1 0 = .ok (.aload_n 0, 1) := by decide +kernel
theorem d_m_train_1 : decode M_m_train.2.1 1 = .ok (.getfield 103, 3) := by decide +kernel
theorem d_m_train_4 : decode M_m_train.2.1 4 = .ok (.ifCond .eq 10, 3) := by decide +kernel
theorem d_m_train_7 : decode M_m_train.2.1 7 = .ok (.aload_n 0, 1) := by decide +kernel
theorem d_m_train_8 : decode M_m_train.2.1 8 = .ok (.getfield 131, 3) := by decide +kernel
theorem d_m_train_11 : decode M_m_train.2.1 11 = .ok (.ifCond .le 17, 3) := by decide +kernel
theorem d_m_train_14 : decode M_m_train.2.1 14 = .ok (.aload_n 0, 1) := by decide +kernel
theorem d_m_train_15 : decode M_m_train.2.1 15 = .ok (.getfield 103, 3) := by decide +kernel
theorem d_m_train_18 : decode M_m_train.2.1 18 = .ok (.ifCond .ne 7, 3) := by decide +kernel
theorem d_m_train_21 : decode M_m_train.2.1 21 = .ok (.iconst (-1), 1) := by decide +kernel
theorem d_m_train_22 : decode M_m_train.2.1 22 = .ok (.goto 5, 3) := by decide +kernel
theorem d_m_train_25 : decode M_m_train.2.1 25 = .ok (.bipush (-2), 2) := by decide +kernel
theorem d_m_train_27 : decode M_m_train.2.1 27 = .ok (.ireturn, 1) := by decide +kernel
theorem d_m_train_28 : decode M_m_train.2.1 28 = .ok (.iload_n 1, 1) := by decide +kernel
theorem d_m_train_29 : decode M_m_train.2.1 29 = .ok (.iconst 1, 1) := by decide +kernel
theorem d_m_train_30 : decode M_m_train.2.1 30 = .ok (.iconst 4, 1) := by decide +kernel
theorem d_m_train_31 : decode M_m_train.2.1 31 = .ok (.invokestatic 85, 3) := by decide +kernel
theorem d_m_train_34 : decode M_m_train.2.1 34 = .ok (.ifCond .eq 32, 3) := by decide +kernel
theorem d_m_train_37 : decode M_m_train.2.1 37 = .ok (.iload_n 2, 1) := by decide +kernel
theorem d_m_train_38 : decode M_m_train.2.1 38 = .ok (.iconst 0, 1) := by decide +kernel
theorem d_m_train_39 : decode M_m_train.2.1 39 = .ok (.iconst 2, 1) := by decide +kernel
theorem d_m_train_40 : decode M_m_train.2.1 40 = .ok (.invokestatic 85, 3) := by decide +kernel
theorem d_m_train_43 : decode M_m_train.2.1 43 = .ok (.ifCond .eq 23, 3) := by decide +kernel
theorem d_m_train_46 : decode M_m_train.2.1 46 = .ok (.iload_n 3, 1) := by decide +kernel
theorem d_m_train_47 : decode M_m_train.2.1 47 = .ok (.iconst 1, 1) := by decide +kernel
theorem d_m_train_48 : decode M_m_train.2.1 48 = .ok (.iconst 4, 1) := by decide +kernel
theorem d_m_train_49 : decode M_m_train.2.1 49 = .ok (.invokestatic 85, 3) := by decide +kernel
theorem d_m_train_52 : decode M_m_train.2.1 52 = .ok (.ifCond .eq 14, 3) := by decide +kernel
theorem d_m_train_55 : decode M_m_train.2.1 55 = .ok (.iload 4, 2) := by decide +kernel
theorem d_m_train_57 : decode M_m_train.2.1 57 = .ok (.iconst 0, 1) := by decide +kernel
theorem d_m_train_58 : decode M_m_train.2.1 58 = .ok (.bipush 8, 2) := by decide +kernel
theorem d_m_train_60 : decode M_m_train.2.1 60 = .ok (.invokestatic 85, 3) := by decide +kernel
theorem d_m_train_63 : decode M_m_train.2.1 63 = .ok (.ifCond .ne 6, 3) := by decide +kernel
theorem d_m_train_66 : decode M_m_train.2.1 66 = .ok (.bipush (-3), 2) := by decide +kernel
theorem d_m_train_68 : decode M_m_train.2.1 68 = .ok (.ireturn, 1) := by decide +kernel
theorem d_m_train_69 : decode M_m_train.2.1 69 = .ok (.aload_n 0, 1) := by decide +kernel
theorem d_m_train_70 : decode M_m_train.2.1 70 = .ok (.iconst 1, 1) := by decide +kernel
theorem d_m_train_71 : decode M_m_train.2.1 71 = .ok (.putfield 92, 3) := by decide +kernel
theorem d_m_train_74 : decode M_m_train.2.1 74 = .ok (.aload_n 0, 1) := by decide +kernel
theorem d_m_train_75 : decode M_m_train.2.1 75 = .ok (.iload_n 1, 1) := by decide +kernel
theorem d_m_train_76 : decode M_m_train.2.1 76 = .ok (.putfield 134, 3) := by decide +kernel
theorem d_m_train_79 : decode M_m_train.2.1 79 = .ok (.aload_n 0, 1) := by decide +kernel
theorem d_m_train_80 : decode M_m_train.2.1 80 = .ok (.iload_n 2, 1) := by decide +kernel
theorem d_m_train_81 : decode M_m_train.2.1 81 = .ok (.putfield 128, 3) := by decide +kernel
theorem d_m_train_84 : decode M_m_train.2.1 84 = .ok (.aload_n 0, 1) := by decide +kernel
theorem d_m_train_85 : decode M_m_train.2.1 85 = .ok (.iload_n 3, 1) := by decide +kernel
theorem d_m_train_86 : decode M_m_train.2.1 86 = .ok (.putfield 137, 3) := by decide +kernel
theorem d_m_train_89 : decode M_m_train.2.1 89 = .ok (.iconst 0, 1) := by decide +kernel
theorem d_m_train_90 : decode M_m_train.2.1 90 = .ok (.istore 5, 2) := by decide +kernel
theorem d_m_train_92 : decode M_m_train.2.1 92 = .ok (.iload 5, 2) := by decide +kernel
theorem d_m_train_94 : decode M_m_train.2.1 94 = .ok (.aload_n 0, 1) := by decide +kernel
theorem d_m_train_95 : decode M_m_train.2.1 95 = .ok (.getfield 103, 3) := by decide +kernel
theorem d_m_train_98 : decode M_m_train.2.1 98 = .ok (.if_icmp .ge 94, 3) := by decide +kernel
theorem d_m_train_101 : decode M_m_train.2.1 101 = .ok (.aload_n 0, 1) := by decide +kernel
theorem d_m_train_102 : decode M_m_train.2.1 102 = .ok (.aload_n 0, 1) := by decide +kernel
theorem d_m_train_103 : decode M_m_train.2.1 103 = .ok (.getfield 13, 3) := by decide +kernel
theorem d_m_train_106 : decode M_m_train.2.1 106 = .ok (.iconst 4, 1) := by decide +kernel
theorem d_m_train_107 : decode M_m_train.2.1 107 = .ok (.iload 5, 2) := by decide +kernel
theorem d_m_train_109 : decode M_m_train.2.1 109 = .ok (.imul, 1) := by decide +kernel
theorem d_m_train_110 : decode M_m_train.2.1 110 = .ok (.iaload, 1) := by decide +kernel
theorem d_m_train_111 : decode M_m_train.2.1 111 = .ok (.aload_n 0, 1) := by decide +kernel
theorem d_m_train_112 : decode M_m_train.2.1 112 = .ok (.getfield 13, 3) := by decide +kernel
theorem d_m_train_115 : decode M_m_train.2.1 115 = .ok (.iconst 4, 1) := by decide +kernel
theorem d_m_train_116 : decode M_m_train.2.1 116 = .ok (.iload 5, 2) := by decide +kernel
theorem d_m_train_118 : decode M_m_train.2.1 118 = .ok (.imul, 1) := by decide +kernel
theorem d_m_train_119 : decode M_m_train.2.1 119 = .ok (.iconst 1, 1) := by decide +kernel
theorem d_m_train_120 : decode M_m_train.2.1 120 = .ok (.iadd, 1) := by decide +kernel
theorem d_m_train_121 : decode M_m_train.2.1 121 = .ok (.iaload, 1) := by decide +kernel
theorem d_m_train_122 : decode M_m_train.2.1 122 = .ok (.aload_n 0, 1) := by decide +kernel
theorem d_m_train_123 : decode M_m_train.2.1 123 = .ok (.getfield 13, 3) := by decide +kernel
theorem d_m_train_126 : decode M_m_train.2.1 126 = .ok (.iconst 4, 1) := by decide +kernel
theorem d_m_train_127 : decode M_m_train.2.1 127 = .ok (.iload 5, 2) := by decide +kernel
theorem d_m_train_129 : decode M_m_train.2.1 129 = .ok (.imul, 1) := by decide +kernel
theorem d_m_train_130 : decode M_m_train.2.1 130 = .ok (.iconst 2, 1) := by decide +kernel
theorem d_m_train_131 : decode M_m_train.2.1 131 = .ok (.iadd, 1) := by decide +kernel
theorem d_m_train_132 : decode M_m_train.2.1 132 = .ok (.iaload, 1) := by decide +kernel
theorem d_m_train_133 : decode M_m_train.2.1 133 = .ok (.aload_n 0, 1) := by decide +kernel
theorem d_m_train_134 : decode M_m_train.2.1 134 = .ok (.getfield 13, 3) := by decide +kernel
theorem d_m_train_137 : decode M_m_train.2.1 137 = .ok (.iconst 4, 1) := by decide +kernel
theorem d_m_train_138 : decode M_m_train.2.1 138 = .ok (.iload 5, 2) := by decide +kernel
theorem d_m_train_140 : decode M_m_train.2.1 140 = .ok (.imul, 1) := by decide +kernel
theorem d_m_train_141 : decode M_m_train.2.1 141 = .ok (.iconst 3, 1) := by decide +kernel
theorem d_m_train_142 : decode M_m_train.2.1 142 = .ok (.iadd, 1) := by decide +kernel
theorem d_m_train_143 : decode M_m_train.2.1 143 = .ok (.iaload, 1) := by decide +kernel
theorem d_m_train_144 : decode M_m_train.2.1 144 = .ok (.invokevirtual 100, 3) := by decide +kernel
theorem d_m_train_147 : decode M_m_train.2.1 147 = .ok (.pop, 1) := by decide +kernel
theorem d_m_train_148 : decode M_m_train.2.1 148 = .ok (.aload_n 0, 1) := by decide +kernel
theorem d_m_train_149 : decode M_m_train.2.1 149 = .ok (.invokevirtual 89, 3) := by decide +kernel
theorem d_m_train_152 : decode M_m_train.2.1 152 = .ok (.iconst 0, 1) := by decide +kernel
theorem d_m_train_153 : decode M_m_train.2.1 153 = .ok (.istore 6, 2) := by decide +kernel
theorem d_m_train_155 : decode M_m_train.2.1 155 = .ok (.iload 6, 2) := by decide +kernel
theorem d_m_train_157 : decode M_m_train.2.1 157 = .ok (.iconst 4, 1) := by decide +kernel
theorem d_m_train_158 : decode M_m_train.2.1 158 = .ok (.if_icmp .ge 28, 3) := by decide +kernel
theorem d_m_train_161 : decode M_m_train.2.1 161 = .ok (.aload_n 0, 1) := by decide +kernel
theorem d_m_train_162 : decode M_m_train.2.1 162 = .ok (.getfield 50, 3) := by decide +kernel
theorem d_m_train_165 : decode M_m_train.2.1 165 = .ok (.iconst 4, 1) := by decide +kernel
theorem d_m_train_166 : decode M_m_train.2.1 166 = .ok (.iload 5, 2) := by decide +kernel
theorem d_m_train_168 : decode M_m_train.2.1 168 = .ok (.imul, 1) := by decide +kernel
theorem d_m_train_169 : decode M_m_train.2.1 169 = .ok (.iload 6, 2) := by decide +kernel
theorem d_m_train_171 : decode M_m_train.2.1 171 = .ok (.iadd, 1) := by decide +kernel
theorem d_m_train_172 : decode M_m_train.2.1 172 = .ok (.aload_n 0, 1) := by decide +kernel
theorem d_m_train_173 : decode M_m_train.2.1 173 = .ok (.getfield 41, 3) := by decide +kernel
theorem d_m_train_176 : decode M_m_train.2.1 176 = .ok (.iload 6, 2) := by decide +kernel
theorem d_m_train_178 : decode M_m_train.2.1 178 = .ok (.iaload, 1) := by decide +kernel
theorem d_m_train_179 : decode M_m_train.2.1 179 = .ok (.iastore, 1) := by decide +kernel
theorem d_m_train_180 : decode M_m_train.2.1 180 = .ok (.iinc 6 1, 3) := by decide +kernel
theorem d_m_train_183 : decode M_m_train.2.1 183 = .ok (.goto (-28), 3) := by decide +kernel
theorem d_m_train_186 : decode M_m_train.2.1 186 = .ok (.iinc 5 1, 3) := by decide +kernel
theorem d_m_train_189 : decode M_m_train.2.1 189 = .ok (.goto (-97), 3) := by decide +kernel
theorem d_m_train_192 : decode M_m_train.2.1 192 = .ok (.aload_n 0, 1) := by decide +kernel
theorem d_m_train_193 : decode M_m_train.2.1 193 = .ok (.aload_n 0, 1) := by decide +kernel
theorem d_m_train_194 : decode M_m_train.2.1 194 = .ok (.getfield 134, 3) := by decide +kernel
theorem d_m_train_197 : decode M_m_train.2.1 197 = .ok (.iconst 4, 1) := by decide +kernel
theorem d_m_train_198 : decode M_m_train.2.1 198 = .ok (.iload 4, 2) := by decide +kernel
theorem d_m_train_200 : decode M_m_train.2.1 200 = .ok (.invokevirtual 140, 3) := by decide +kernel
theorem d_m_train_203 : decode M_m_train.2.1 203 = .ok (.iconst 0, 1) := by decide +kernel
theorem d_m_train_204 : decode M_m_train.2.1 204 = .ok (.istore 5, 2) := by decide +kernel
theorem d_m_train_206 : decode M_m_train.2.1 206 = .ok (.iload 5, 2) := by decide +kernel
theorem d_m_train_208 : decode M_m_train.2.1 208 = .ok (.iconst 4, 1) := by decide +kernel
theorem d_m_train_209 : decode M_m_train.2.1 209 = .ok (.aload_n 0, 1) := by decide +kernel
theorem d_m_train_210 : decode M_m_train.2.1 210 = .ok (.getfield 134, 3) := by decide +kernel
theorem d_m_train_213 : decode M_m_train.2.1 213 = .ok (.imul, 1) := by decide +kernel
theorem d_m_train_214 : decode M_m_train.2.1 214 = .ok (.if_icmp .ge 23, 3) := by decide +kernel
theorem d_m_train_217 : decode M_m_train.2.1 217 = .ok (.aload_n 0, 1) := by decide +kernel
theorem d_m_train_218 : decode M_m_train.2.1 218 = .ok (.getfield 16, 3) := by decide +kernel
theorem d_m_train_221 : decode M_m_train.2.1 221 = .ok (.iload 5, 2) := by decide +kernel
theorem d_m_train_223 : decode M_m_train.2.1 223 = .ok (.aload_n 0, 1) := by decide +kernel
theorem d_m_train_224 : decode M_m_train.2.1 224 = .ok (.getfield 56, 3) := by decide +kernel
theorem d_m_train_227 : decode M_m_train.2.1 227 = .ok (.iload 5, 2) := by decide +kernel
theorem d_m_train_229 : decode M_m_train.2.1 229 = .ok (.iaload, 1) := by decide +kernel
theorem d_m_train_230 : decode M_m_train.2.1 230 = .ok (.iastore, 1) := by decide +kernel
theorem d_m_train_231 : decode M_m_train.2.1 231 = .ok (.iinc 5 1, 3) := by decide +kernel
theorem d_m_train_234 : decode M_m_train.2.1 234 = .ok (.goto (-28), 3) := by decide +kernel
theorem d_m_train_237 : decode M_m_train.2.1 237 = .ok (.iconst 0, 1) := by decide +kernel
theorem d_m_train_238 : decode M_m_train.2.1 238 = .ok (.istore 5, 2) := by decide +kernel
theorem d_m_train_240 : decode M_m_train.2.1 240 = .ok (.iload 5, 2) := by decide +kernel
theorem d_m_train_242 : decode M_m_train.2.1 242 = .ok (.aload_n 0, 1) := by decide +kernel
theorem d_m_train_243 : decode M_m_train.2.1 243 = .ok (.getfield 103, 3) := by decide +kernel
theorem d_m_train_246 : decode M_m_train.2.1 246 = .ok (.if_icmp .ge 74, 3) := by decide +kernel
theorem d_m_train_249 : decode M_m_train.2.1 249 = .ok (.aload_n 0, 1) := by decide +kernel
theorem d_m_train_250 : decode M_m_train.2.1 250 = .ok (.iload 5, 2) := by decide +kernel
theorem d_m_train_252 : decode M_m_train.2.1 252 = .ok (.aload_n 0, 1) := by decide +kernel
theorem d_m_train_253 : decode M_m_train.2.1 253 = .ok (.getfield 134, 3) := by decide +kernel
theorem d_m_train_256 : decode M_m_train.2.1 256 = .ok (.iconst 4, 1) := by decide +kernel
theorem d_m_train_257 : decode M_m_train.2.1 257 = .ok (.invokevirtual 110, 3) := by decide +kernel
theorem d_m_train_260 : decode M_m_train.2.1 260 = .ok (.istore 6, 2) := by decide +kernel
theorem d_m_train_262 : decode M_m_train.2.1 262 = .ok (.iconst 0, 1) := by decide +kernel
theorem d_m_train_263 : decode M_m_train.2.1 263 = .ok (.istore 7, 2) := by decide +kernel
theorem d_m_train_265 : decode M_m_train.2.1 265 = .ok (.iload 7, 2) := by decide +kernel
theorem d_m_train_267 : decode M_m_train.2.1 267 = .ok (.iconst 4, 1) := by decide +kernel
theorem d_m_train_268 : decode M_m_train.2.1 268 = .ok (.if_icmp .ge 46, 3) := by decide +kernel
theorem d_m_train_271 : decode M_m_train.2.1 271 = .ok (.aload_n 0, 1) := by decide +kernel
theorem d_m_train_272 : decode M_m_train.2.1 272 = .ok (.getfield 53, 3) := by decide +kernel
theorem d_m_train_275 : decode M_m_train.2.1 275 = .ok (.iconst 4, 1) := by decide +kernel
theorem d_m_train_276 : decode M_m_train.2.1 276 = .ok (.iload 5, 2) := by decide +kernel
theorem d_m_train_278 : decode M_m_train.2.1 278 = .ok (.imul, 1) := by decide +kernel
theorem d_m_train_279 : decode M_m_train.2.1 279 = .ok (.iload 7, 2) := by decide +kernel
theorem d_m_train_281 : decode M_m_train.2.1 281 = .ok (.iadd, 1) := by decide +kernel
theorem d_m_train_282 : decode M_m_train.2.1 282 = .ok (.aload_n 0, 1) := by decide +kernel
theorem d_m_train_283 : decode M_m_train.2.1 283 = .ok (.getfield 50, 3) := by decide +kernel
theorem d_m_train_286 : decode M_m_train.2.1 286 = .ok (.iconst 4, 1) := by decide +kernel
theorem d_m_train_287 : decode M_m_train.2.1 287 = .ok (.iload 5, 2) := by decide +kernel
theorem d_m_train_289 : decode M_m_train.2.1 289 = .ok (.imul, 1) := by decide +kernel
theorem d_m_train_290 : decode M_m_train.2.1 290 = .ok (.iload 7, 2) := by decide +kernel
theorem d_m_train_292 : decode M_m_train.2.1 292 = .ok (.iadd, 1) := by decide +kernel
theorem d_m_train_293 : decode M_m_train.2.1 293 = .ok (.iaload, 1) := by decide +kernel
theorem d_m_train_294 : decode M_m_train.2.1 294 = .ok (.aload_n 0, 1) := by decide +kernel
theorem d_m_train_295 : decode M_m_train.2.1 295 = .ok (.getfield 56, 3) := by decide +kernel
theorem d_m_train_298 : decode M_m_train.2.1 298 = .ok (.iconst 4, 1) := by decide +kernel
theorem d_m_train_299 : decode M_m_train.2.1 299 = .ok (.iload 6, 2) := by decide +kernel
theorem d_m_train_301 : decode M_m_train.2.1 301 = .ok (.imul, 1) := by decide +kernel
theorem d_m_train_302 : decode M_m_train.2.1 302 = .ok (.iload 7, 2) := by decide +kernel
theorem d_m_train_304 : decode M_m_train.2.1 304 = .ok (.iadd, 1) := by decide +kernel
theorem d_m_train_305 : decode M_m_train.2.1 305 = .ok (.iaload, 1) := by decide +kernel
theorem d_m_train_306 : decode M_m_train.2.1 306 = .ok (.isub, 1) := by decide +kernel
theorem d_m_train_307 : decode M_m_train.2.1 307 = .ok (.iastore, 1) := by decide +kernel
theorem d_m_train_308 : decode M_m_train.2.1 308 = .ok (.iinc 7 1, 3) := by decide +kernel
theorem d_m_train_311 : decode M_m_train.2.1 311 = .ok (.goto (-46), 3) := by decide +kernel
theorem d_m_train_314 : decode M_m_train.2.1 314 = .ok (.iinc 5 1, 3) := by decide +kernel
theorem d_m_train_317 : decode M_m_train.2.1 317 = .ok (.goto (-77), 3) := by decide +kernel
theorem d_m_train_320 : decode M_m_train.2.1 320 = .ok (.iconst 0, 1) := by decide +kernel
theorem d_m_train_321 : decode M_m_train.2.1 321 = .ok (.istore 5, 2) := by decide +kernel
theorem d_m_train_323 : decode M_m_train.2.1 323 = .ok (.iload 5, 2) := by decide +kernel
theorem d_m_train_325 : decode M_m_train.2.1 325 = .ok (.aload_n 0, 1) := by decide +kernel
theorem d_m_train_326 : decode M_m_train.2.1 326 = .ok (.invokevirtual 144, 3) := by decide +kernel
theorem d_m_train_329 : decode M_m_train.2.1 329 = .ok (.if_icmp .ge 33, 3) := by decide +kernel
theorem d_m_train_332 : decode M_m_train.2.1 332 = .ok (.aload_n 0, 1) := by decide +kernel
theorem d_m_train_333 : decode M_m_train.2.1 333 = .ok (.getfield 128, 3) := by decide +kernel
theorem d_m_train_336 : decode M_m_train.2.1 336 = .ok (.ifCond .ne 14, 3) := by decide +kernel
theorem d_m_train_339 : decode M_m_train.2.1 339 = .ok (.aload_n 0, 1) := by decide +kernel
theorem d_m_train_340 : decode M_m_train.2.1 340 = .ok (.iload 5, 2) := by decide +kernel
theorem d_m_train_342 : decode M_m_train.2.1 342 = .ok (.iload 4, 2) := by decide +kernel
theorem d_m_train_344 : decode M_m_train.2.1 344 = .ok (.invokevirtual 148, 3) := by decide +kernel
theorem d_m_train_347 : decode M_m_train.2.1 347 = .ok (.goto 9, 3) := by decide +kernel
theorem d_m_train_350 : decode M_m_train.2.1 350 = .ok (.aload_n 0, 1) := by decide +kernel
theorem d_m_train_351 : decode M_m_train.2.1 351 = .ok (.iload 5, 2) := by decide +kernel
theorem d_m_train_353 : decode M_m_train.2.1 353 = .ok (.invokevirtual 151, 3) := by decide +kernel
theorem d_m_train_356 : decode M_m_train.2.1 356 = .ok (.iinc 5 1, 3) := by decide +kernel
theorem d_m_train_359 : decode M_m_train.2.1 359 = .ok (.goto (-36), 3) := by decide +kernel
theorem d_m_train_362 : decode M_m_train.2.1 362 = .ok (.aload_n 0, 1) := by decide +kernel
theorem d_m_train_363 : decode M_m_train.2.1 363 = .ok (.invokevirtual 155, 3) := by decide +kernel
theorem d_m_train_366 : decode M_m_train.2.1 366 = .ok (.ireturn, 1) := by decide +kernel
theorem d_m_turnIt_0 : decode M_m_turnIt.2.1 0 = .ok (.iconst 0, 1) := by decide +kernel
theorem d_m_turnIt_1 : decode M_m_turnIt.2.1 1 = .ok (.istore_n 1, 1) := by decide +kernel
theorem d_m_turnIt_2 : decode M_m_turnIt.2.1 2 = .ok (.iload_n 1, 1) := by decide +kernel
theorem d_m_turnIt_3 : decode M_m_turnIt.2.1 3 = .ok (.iconst 4, 1) := by decide +kernel
theorem d_m_turnIt_4 : decode M_m_turnIt.2.1 4 = .ok (.if_icmp .ge 55, 3) := by decide +kernel
theorem d_m_turnIt_7 : decode M_m_turnIt.2.1 7 = .ok (.aload_n 0, 1) := by decide +kernel
theorem d_m_turnIt_8 : decode M_m_turnIt.2.1 8 = .ok (.getfield 41, 3) := by decide +kernel
theorem d_m_turnIt_11 : decode M_m_turnIt.2.1 11 = .ok (.iload_n 1, 1) := by decide +kernel
theorem d_m_turnIt_12 : decode M_m_turnIt.2.1 12 = .ok (.aload_n 0, 1) := by decide +kernel
theorem d_m_turnIt_13 : decode M_m_turnIt.2.1 13 = .ok (.getfield 7, 3) := by decide +kernel
theorem d_m_turnIt_16 : decode M_m_turnIt.2.1 16 = .ok (.iload_n 1, 1) := by decide +kernel
theorem d_m_turnIt_17 : decode M_m_turnIt.2.1 17 = .ok (.iaload, 1) := by decide +kernel
theorem d_m_turnIt_18 : decode M_m_turnIt.2.1 18 = .ok (.ifCond .ge 21, 3) := by decide +kernel
theorem d_m_turnIt_21 : decode M_m_turnIt.2.1 21 = .ok (.aload_n 0, 1) := by decide +kernel
theorem d_m_turnIt_22 : decode M_m_turnIt.2.1 22 = .ok (.getfield 38, 3) := by decide +kernel
theorem d_m_turnIt_25 : decode M_m_turnIt.2.1 25 = .ok (.aload_n 0, 1) := by decide +kernel
theorem d_m_turnIt_26 : decode M_m_turnIt.2.1 26 = .ok (.getfield 7, 3) := by decide +kernel
theorem d_m_turnIt_29 : decode M_m_turnIt.2.1 29 = .ok (.iload_n 1, 1) := by decide +kernel
theorem d_m_turnIt_30 : decode M_m_turnIt.2.1 30 = .ok (.iaload, 1) := by decide +kernel
theorem d_m_turnIt_31 : decode M_m_turnIt.2.1 31 = .ok (.ineg, 1) := by decide +kernel
theorem d_m_turnIt_32 : decode M_m_turnIt.2.1 32 = .ok (.iconst 1, 1) := by decide +kernel
theorem d_m_turnIt_33 : decode M_m_turnIt.2.1 33 = .ok (.isub, 1) := by decide +kernel
theorem d_m_turnIt_34 : decode M_m_turnIt.2.1 34 = .ok (.iaload, 1) := by decide +kernel
theorem d_m_turnIt_35 : decode M_m_turnIt.2.1 35 = .ok (.ineg, 1) := by decide +kernel
theorem d_m_turnIt_36 : decode M_m_turnIt.2.1 36 = .ok (.goto 16, 3) := by decide +kernel
theorem d_m_turnIt_39 : decode M_m_turnIt.2.1 39 = .ok (.aload_n 0, 1) := by decide +kernel
theorem d_m_turnIt_40 : decode M_m_turnIt.2.1 40 = .ok (.getfield 38, 3) := by decide +kernel
theorem d_m_turnIt_43 : decode M_m_turnIt.2.1 43 = .ok (.aload_n 0, 1) := by decide +kernel
theorem d_m_turnIt_44 : decode M_m_turnIt.2.1 44 = .ok (.getfield 7, 3) := by decide +kernel
theorem d_m_turnIt_47 : decode M_m_turnIt.2.1 47 = .ok (.iload_n 1, 1) := by decide +kernel
theorem d_m_turnIt_48 : decode M_m_turnIt.2.1 48 = .ok (.iaload, 1) := by decide +kernel
theorem d_m_turnIt_49 : decode M_m_turnIt.2.1 49 = .ok (.iconst 1, 1) := by decide +kernel
theorem d_m_turnIt_50 : decode M_m_turnIt.2.1 50 = .ok (.isub, 1) := by decide +kernel
theorem d_m_turnIt_51 : decode M_m_turnIt.2.1 51 = .ok (.iaload, 1) := by decide +kernel
theorem d_m_turnIt_52 : decode M_m_turnIt.2.1 52 = .ok (.iastore, 1) := by decide +kernel
theorem d_m_turnIt_53 : decode M_m_turnIt.2.1 53 = .ok (.iinc 1 1, 3) := by decide +kernel
theorem d_m_turnIt_56 : decode M_m_turnIt.2.1 56 = .ok (.goto (-54), 3) := by decide +kernel
theorem d_m_turnIt_59 : decode M_m_turnIt.2.1 59 = .ok (.return_, 1) := by decide +kernel
theorem d_m_cluster_0 : decode M_m_cluster.2.1 0 = .ok (.iconst 0, 1) := by decide +kernel
theorem d_m_cluster_1 : decode M_m_cluster.2.1 1 = .ok (.istore 4, 2) := by decide +kernel
theorem d_m_cluster_3 : decode M_m_cluster.2.1 3 = .ok (.iload 4, 2) := by decide +kernel
theorem d_m_cluster_5 : decode M_m_cluster.2.1 5 = .ok (.iload_n 1, 1) := by decide +kernel
theorem d_m_cluster_6 : decode M_m_cluster.2.1 6 = .ok (.if_icmp .ge 114, 3) := by decide +kernel
theorem d_m_cluster_9 : decode M_m_cluster.2.1 9 = .ok (.iconst 0, 1) := by decide +kernel
theorem d_m_cluster_10 : decode M_m_cluster.2.1 10 = .ok (.istore 5, 2) := by decide +kernel
theorem d_m_cluster_12 : decode M_m_cluster.2.1 12 = .ok (.iconst (-1), 1) := by decide +kernel
theorem d_m_cluster_13 : decode M_m_cluster.2.1 13 = .ok (.istore 6, 2) := by decide +kernel
theorem d_m_cluster_15 : decode M_m_cluster.2.1 15 = .ok (.iconst 0, 1) := by decide +kernel
theorem d_m_cluster_16 : decode M_m_cluster.2.1 16 = .ok (.istore 7, 2) := by decide +kernel
theorem d_m_cluster_18 : decode M_m_cluster.2.1 18 = .ok (.iload 7, 2) := by decide +kernel
theorem d_m_cluster_20 : decode M_m_cluster.2.1 20 = .ok (.aload_n 0, 1) := by decide +kernel
theorem d_m_cluster_21 : decode M_m_cluster.2.1 21 = .ok (.getfield 103, 3) := by decide +kernel
theorem d_m_cluster_24 : decode M_m_cluster.2.1 24 = .ok (.if_icmp .ge 51, 3) := by decide +kernel
theorem d_m_cluster_27 : decode M_m_cluster.2.1 27 = .ok (.iload 4, 2) := by decide +kernel
theorem d_m_cluster_29 : decode M_m_cluster.2.1 29 = .ok (.ifCond .le 46, 3) := by decide +kernel
theorem d_m_cluster_32 : decode M_m_cluster.2.1 32 = .ok (.aload_n 0, 1) := by decide +kernel
theorem d_m_cluster_33 : decode M_m_cluster.2.1 33 = .ok (.iload 7, 2) := by decide +kernel
theorem d_m_cluster_35 : decode M_m_cluster.2.1 35 = .ok (.iload 4, 2) := by decide +kernel
theorem d_m_cluster_37 : decode M_m_cluster.2.1 37 = .ok (.iload_n 2, 1) := by decide +kernel
theorem d_m_cluster_38 : decode M_m_cluster.2.1 38 = .ok (.invokevirtual 110, 3) := by decide +kernel
theorem d_m_cluster_41 : decode M_m_cluster.2.1 41 = .ok (.istore 8, 2) := by decide +kernel
theorem d_m_cluster_43 : decode M_m_cluster.2.1 43 = .ok (.aload_n 0, 1) := by decide +kernel
theorem d_m_cluster_44 : decode M_m_cluster.2.1 44 = .ok (.iload 7, 2) := by decide +kernel
theorem d_m_cluster_46 : decode M_m_cluster.2.1 46 = .ok (.iload 8, 2) := by decide +kernel
theorem d_m_cluster_48 : decode M_m_cluster.2.1 48 = .ok (.iload_n 2, 1) := by decide +kernel
theorem d_m_cluster_49 : decode M_m_cluster.2.1 49 = .ok (.invokevirtual 106, 3) := by decide +kernel
theorem d_m_cluster_52 : decode M_m_cluster.2.1 52 = .ok (.istore 9, 2) := by decide +kernel
theorem d_m_cluster_54 : decode M_m_cluster.2.1 54 = .ok (.iload 9, 2) := by decide +kernel
theorem d_m_cluster_56 : decode M_m_cluster.2.1 56 = .ok (.iload 6, 2) := by decide +kernel
theorem d_m_cluster_58 : decode M_m_cluster.2.1 58 = .ok (.if_icmp .le 11, 3) := by decide +kernel
theorem d_m_cluster_61 : decode M_m_cluster.2.1 61 = .ok (.iload 9, 2) := by decide +kernel
theorem d_m_cluster_63 : decode M_m_cluster.2.1 63 = .ok (.istore 6, 2) := by decide +kernel
theorem d_m_cluster_65 : decode M_m_cluster.2.1 65 = .ok (.iload 7, 2) := by decide +kernel
theorem d_m_cluster_67 : decode M_m_cluster.2.1 67 = .ok (.istore 5, 2) := by decide +kernel
theorem d_m_cluster_69 : decode M_m_cluster.2.1 69 = .ok (.iinc 7 1, 3) := by decide +kernel
theorem d_m_cluster_72 : decode M_m_cluster.2.1 72 = .ok (.goto (-54), 3) := by decide +kernel
theorem d_m_cluster_75 : decode M_m_cluster.2.1 75 = .ok (.iconst 0, 1) := by decide +kernel
theorem d_m_cluster_76 : decode M_m_cluster.2.1 76 = .ok (.istore 7, 2) := by decide +kernel
theorem d_m_cluster_78 : decode M_m_cluster.2.1 78 = .ok (.iload 7, 2) := by decide +kernel
theorem d_m_cluster_80 : decode M_m_cluster.2.1 80 = .ok (.iconst 4, 1) := by decide +kernel
end
section
theorem d_m_cluster_81 : decode M_m_cluster.2.1 81 = .ok (.if_icmp .ge 33, 3) := by decide +kernel
theorem d_m_cluster_84 : decode M_m_cluster.2.1 84 = .ok (.aload_n 0, 1) := by decide +kernel
theorem d_m_cluster_85 : decode M_m_cluster.2.1 85 = .ok (.getfield 56, 3) := by decide +kernel
theorem d_m_cluster_88 : decode M_m_cluster.2.1 88 = .ok (.iconst 4, 1) := by decide +kernel
theorem d_m_cluster_89 : decode M_m_cluster.2.1 89 = .ok (.iload 4, 2) := by decide +kernel
theorem d_m_cluster_91 : decode M_m_cluster.2.1 91 = .ok (.imul, 1) := by decide +kernel
theorem d_m_cluster_92 : decode M_m_cluster.2.1 92 = .ok (.iload 7, 2) := by decide +kernel
theorem d_m_cluster_94 : decode M_m_cluster.2.1 94 = .ok (.iadd, 1) := by decide +kernel
theorem d_m_cluster_95 : decode M_m_cluster.2.1 95 = .ok (.aload_n 0, 1) := by decide +kernel
theorem d_m_cluster_96 : decode M_m_cluster.2.1 96 = .ok (.getfield 50, 3) := by decide +kernel
theorem d_m_cluster_99 : decode M_m_cluster.2.1 99 = .ok (.iconst 4, 1) := by decide +kernel
theorem d_m_cluster_100 : decode M_m_cluster.2.1 100 = .ok (.iload 5, 2) := by decide +kernel
theorem d_m_cluster_102 : decode M_m_cluster.2.1 102 = .ok (.imul, 1) := by decide +kernel
theorem d_m_cluster_103 : decode M_m_cluster.2.1 103 = .ok (.iload 7, 2) := by decide +kernel
theorem d_m_cluster_105 : decode M_m_cluster.2.1 105 = .ok (.iadd, 1) := by decide +kernel
theorem d_m_cluster_106 : decode M_m_cluster.2.1 106 = .ok (.iaload, 1) := by decide +kernel
theorem d_m_cluster_107 : decode M_m_cluster.2.1 107 = .ok (.iastore, 1) := by decide +kernel
theorem d_m_cluster_108 : decode M_m_cluster.2.1 108 = .ok (.iinc 7 1, 3) := by decide +kernel
theorem d_m_cluster_111 : decode M_m_cluster.2.1 111 = .ok (.goto (-33), 3) := by decide +kernel
theorem d_m_cluster_114 : decode M_m_cluster.2.1 114 = .ok (.iinc 4 1, 3) := by decide +kernel
theorem d_m_cluster_117 : decode M_m_cluster.2.1 117 = .ok (.goto (-114), 3) := by decide +kernel
theorem d_m_cluster_120 : decode M_m_cluster.2.1 120 = .ok (.iconst 0, 1) := by decide +kernel
theorem d_m_cluster_121 : decode M_m_cluster.2.1 121 = .ok (.istore 4, 2) := by decide +kernel
theorem d_m_cluster_123 : decode M_m_cluster.2.1 123 = .ok (.iload 4, 2) := by decide +kernel
theorem d_m_cluster_125 : decode M_m_cluster.2.1 125 = .ok (.iload_n 3, 1) := by decide +kernel
theorem d_m_cluster_126 : decode M_m_cluster.2.1 126 = .ok (.if_icmp .ge 70, 3) := by decide +kernel
theorem d_m_cluster_129 : decode M_m_cluster.2.1 129 = .ok (.iconst 0, 1) := by decide +kernel
theorem d_m_cluster_130 : decode M_m_cluster.2.1 130 = .ok (.istore 5, 2) := by decide +kernel
theorem d_m_cluster_132 : decode M_m_cluster.2.1 132 = .ok (.iload 5, 2) := by decide +kernel
theorem d_m_cluster_134 : decode M_m_cluster.2.1 134 = .ok (.aload_n 0, 1) := by decide +kernel
theorem d_m_cluster_135 : decode M_m_cluster.2.1 135 = .ok (.getfield 103, 3) := by decide +kernel
theorem d_m_cluster_138 : decode M_m_cluster.2.1 138 = .ok (.if_icmp .ge 24, 3) := by decide +kernel
theorem d_m_cluster_141 : decode M_m_cluster.2.1 141 = .ok (.aload_n 0, 1) := by decide +kernel
theorem d_m_cluster_142 : decode M_m_cluster.2.1 142 = .ok (.getfield 59, 3) := by decide +kernel
theorem d_m_cluster_145 : decode M_m_cluster.2.1 145 = .ok (.iload 5, 2) := by decide +kernel
theorem d_m_cluster_147 : decode M_m_cluster.2.1 147 = .ok (.aload_n 0, 1) := by decide +kernel
theorem d_m_cluster_148 : decode M_m_cluster.2.1 148 = .ok (.iload 5, 2) := by decide +kernel
theorem d_m_cluster_150 : decode M_m_cluster.2.1 150 = .ok (.iload_n 1, 1) := by decide +kernel
theorem d_m_cluster_151 : decode M_m_cluster.2.1 151 = .ok (.iload_n 2, 1) := by decide +kernel
theorem d_m_cluster_152 : decode M_m_cluster.2.1 152 = .ok (.invokevirtual 110, 3) := by decide +kernel
theorem d_m_cluster_155 : decode M_m_cluster.2.1 155 = .ok (.iastore, 1) := by decide +kernel
theorem d_m_cluster_156 : decode M_m_cluster.2.1 156 = .ok (.iinc 5 1, 3) := by decide +kernel
theorem d_m_cluster_159 : decode M_m_cluster.2.1 159 = .ok (.goto (-27), 3) := by decide +kernel
theorem d_m_cluster_162 : decode M_m_cluster.2.1 162 = .ok (.iconst 0, 1) := by decide +kernel
theorem d_m_cluster_163 : decode M_m_cluster.2.1 163 = .ok (.istore 5, 2) := by decide +kernel
theorem d_m_cluster_165 : decode M_m_cluster.2.1 165 = .ok (.iload 5, 2) := by decide +kernel
theorem d_m_cluster_167 : decode M_m_cluster.2.1 167 = .ok (.iload_n 1, 1) := by decide +kernel
theorem d_m_cluster_168 : decode M_m_cluster.2.1 168 = .ok (.if_icmp .ge 16, 3) := by decide +kernel
theorem d_m_cluster_171 : decode M_m_cluster.2.1 171 = .ok (.aload_n 0, 1) := by decide +kernel
theorem d_m_cluster_172 : decode M_m_cluster.2.1 172 = .ok (.iload 5, 2) := by decide +kernel
theorem d_m_cluster_174 : decode M_m_cluster.2.1 174 = .ok (.iload_n 2, 1) := by decide +kernel
theorem d_m_cluster_175 : decode M_m_cluster.2.1 175 = .ok (.invokevirtual 113, 3) := by decide +kernel
theorem d_m_cluster_178 : decode M_m_cluster.2.1 178 = .ok (.iinc 5 1, 3) := by decide +kernel
theorem d_m_cluster_181 : decode M_m_cluster.2.1 181 = .ok (.goto (-16), 3) := by decide +kernel
theorem d_m_cluster_184 : decode M_m_cluster.2.1 184 = .ok (.aload_n 0, 1) := by decide +kernel
theorem d_m_cluster_185 : decode M_m_cluster.2.1 185 = .ok (.iload_n 1, 1) := by decide +kernel
theorem d_m_cluster_186 : decode M_m_cluster.2.1 186 = .ok (.iload_n 2, 1) := by decide +kernel
theorem d_m_cluster_187 : decode M_m_cluster.2.1 187 = .ok (.invokevirtual 117, 3) := by decide +kernel
theorem d_m_cluster_190 : decode M_m_cluster.2.1 190 = .ok (.iinc 4 1, 3) := by decide +kernel
theorem d_m_cluster_193 : decode M_m_cluster.2.1 193 = .ok (.goto (-70), 3) := by decide +kernel
theorem d_m_cluster_196 : decode M_m_cluster.2.1 196 = .ok (.return_, 1) := by decide +kernel
theorem d_m_nearest_0 : decode M_m_nearest.2.1 0 = .ok (.iconst 0, 1) := by decide +kernel
theorem d_m_nearest_1 : decode M_m_nearest.2.1 1 = .ok (.istore 4, 2) := by decide +kernel
theorem d_m_nearest_3 : decode M_m_nearest.2.1 3 = .ok (.iload_n 2, 1) := by decide +kernel
theorem d_m_nearest_4 : decode M_m_nearest.2.1 4 = .ok (.iconst 1, 1) := by decide +kernel
theorem d_m_nearest_5 : decode M_m_nearest.2.1 5 = .ok (.isub, 1) := by decide +kernel
theorem d_m_nearest_6 : decode M_m_nearest.2.1 6 = .ok (.istore 5, 2) := by decide +kernel
theorem d_m_nearest_8 : decode M_m_nearest.2.1 8 = .ok (.iload 5, 2) := by decide +kernel
theorem d_m_nearest_10 : decode M_m_nearest.2.1 10 = .ok (.ifCond .lt 32, 3) := by decide +kernel
theorem d_m_nearest_13 : decode M_m_nearest.2.1 13 = .ok (.aload_n 0, 1) := by decide +kernel
theorem d_m_nearest_14 : decode M_m_nearest.2.1 14 = .ok (.iload_n 1, 1) := by decide +kernel
theorem d_m_nearest_15 : decode M_m_nearest.2.1 15 = .ok (.iload 5, 2) := by decide +kernel
theorem d_m_nearest_17 : decode M_m_nearest.2.1 17 = .ok (.iload_n 3, 1) := by decide +kernel
theorem d_m_nearest_18 : decode M_m_nearest.2.1 18 = .ok (.invokevirtual 106, 3) := by decide +kernel
theorem d_m_nearest_21 : decode M_m_nearest.2.1 21 = .ok (.aload_n 0, 1) := by decide +kernel
theorem d_m_nearest_22 : decode M_m_nearest.2.1 22 = .ok (.iload_n 1, 1) := by decide +kernel
theorem d_m_nearest_23 : decode M_m_nearest.2.1 23 = .ok (.iload 4, 2) := by decide +kernel
theorem d_m_nearest_25 : decode M_m_nearest.2.1 25 = .ok (.iload_n 3, 1) := by decide +kernel
theorem d_m_nearest_26 : decode M_m_nearest.2.1 26 = .ok (.invokevirtual 106, 3) := by decide +kernel
theorem d_m_nearest_29 : decode M_m_nearest.2.1 29 = .ok (.if_icmp .gt 7, 3) := by decide +kernel
theorem d_m_nearest_32 : decode M_m_nearest.2.1 32 = .ok (.iload 5, 2) := by decide +kernel
theorem d_m_nearest_34 : decode M_m_nearest.2.1 34 = .ok (.istore 4, 2) := by decide +kernel
theorem d_m_nearest_36 : decode M_m_nearest.2.1 36 = .ok (.iinc 5 (-1), 3) := by decide +kernel
theorem d_m_nearest_39 : decode M_m_nearest.2.1 39 = .ok (.goto (-31), 3) := by decide +kernel
theorem d_m_nearest_42 : decode M_m_nearest.2.1 42 = .ok (.iload 4, 2) := by decide +kernel
theorem d_m_nearest_44 : decode M_m_nearest.2.1 44 = .ok (.ireturn, 1) := by decide +kernel
theorem d_m_gap_0 : decode M_m_gap.2.1 0 = .ok (.iconst 0, 1) := by decide +kernel
theorem d_m_gap_1 : decode M_m_gap.2.1 1 = .ok (.istore 4, 2) := by decide +kernel
theorem d_m_gap_3 : decode M_m_gap.2.1 3 = .ok (.iconst 0, 1) := by decide +kernel
theorem d_m_gap_4 : decode M_m_gap.2.1 4 = .ok (.istore 5, 2) := by decide +kernel
theorem d_m_gap_6 : decode M_m_gap.2.1 6 = .ok (.iload 5, 2) := by decide +kernel
theorem d_m_gap_8 : decode M_m_gap.2.1 8 = .ok (.iload_n 3, 1) := by decide +kernel
theorem d_m_gap_9 : decode M_m_gap.2.1 9 = .ok (.if_icmp .ge 44, 3) := by decide +kernel
theorem d_m_gap_12 : decode M_m_gap.2.1 12 = .ok (.aload_n 0, 1) := by decide +kernel
theorem d_m_gap_13 : decode M_m_gap.2.1 13 = .ok (.getfield 50, 3) := by decide +kernel
theorem d_m_gap_16 : decode M_m_gap.2.1 16 = .ok (.iconst 4, 1) := by decide +kernel
theorem d_m_gap_17 : decode M_m_gap.2.1 17 = .ok (.iload_n 1, 1) := by decide +kernel
theorem d_m_gap_18 : decode M_m_gap.2.1 18 = .ok (.imul, 1) := by decide +kernel
theorem d_m_gap_19 : decode M_m_gap.2.1 19 = .ok (.iload 5, 2) := by decide +kernel
theorem d_m_gap_21 : decode M_m_gap.2.1 21 = .ok (.iadd, 1) := by decide +kernel
theorem d_m_gap_22 : decode M_m_gap.2.1 22 = .ok (.iaload, 1) := by decide +kernel
theorem d_m_gap_23 : decode M_m_gap.2.1 23 = .ok (.aload_n 0, 1) := by decide +kernel
theorem d_m_gap_24 : decode M_m_gap.2.1 24 = .ok (.getfield 56, 3) := by decide +kernel
theorem d_m_gap_27 : decode M_m_gap.2.1 27 = .ok (.iconst 4, 1) := by decide +kernel
theorem d_m_gap_28 : decode M_m_gap.2.1 28 = .ok (.iload_n 2, 1) := by decide +kernel
theorem d_m_gap_29 : decode M_m_gap.2.1 29 = .ok (.imul, 1) := by decide +kernel
theorem d_m_gap_30 : decode M_m_gap.2.1 30 = .ok (.iload 5, 2) := by decide +kernel
theorem d_m_gap_32 : decode M_m_gap.2.1 32 = .ok (.iadd, 1) := by decide +kernel
theorem d_m_gap_33 : decode M_m_gap.2.1 33 = .ok (.iaload, 1) := by decide +kernel
theorem d_m_gap_34 : decode M_m_gap.2.1 34 = .ok (.isub, 1) := by decide +kernel
theorem d_m_gap_35 : decode M_m_gap.2.1 35 = .ok (.istore 6, 2) := by decide +kernel
theorem d_m_gap_37 : decode M_m_gap.2.1 37 = .ok (.iload 4, 2) := by decide +kernel
theorem d_m_gap_39 : decode M_m_gap.2.1 39 = .ok (.iload 6, 2) := by decide +kernel
theorem d_m_gap_41 : decode M_m_gap.2.1 41 = .ok (.iload 6, 2) := by decide +kernel
theorem d_m_gap_43 : decode M_m_gap.2.1 43 = .ok (.imul, 1) := by decide +kernel
theorem d_m_gap_44 : decode M_m_gap.2.1 44 = .ok (.iadd, 1) := by decide +kernel
theorem d_m_gap_45 : decode M_m_gap.2.1 45 = .ok (.istore 4, 2) := by decide +kernel
theorem d_m_gap_47 : decode M_m_gap.2.1 47 = .ok (.iinc 5 1, 3) := by decide +kernel
theorem d_m_gap_50 : decode M_m_gap.2.1 50 = .ok (.goto (-44), 3) := by decide +kernel
theorem d_m_gap_53 : decode M_m_gap.2.1 53 = .ok (.iload 4, 2) := by decide +kernel
theorem d_m_gap_55 : decode M_m_gap.2.1 55 = .ok (.ireturn, 1) := by decide +kernel
theorem d_m_mean_0 : decode M_m_mean.2.1 0 = .ok (.iconst 0, 1) := by decide +kernel
theorem d_m_mean_1 : decode M_m_mean.2.1 1 = .ok (.istore_n 3, 1) := by decide +kernel
theorem d_m_mean_2 : decode M_m_mean.2.1 2 = .ok (.iconst 0, 1) := by decide +kernel
theorem d_m_mean_3 : decode M_m_mean.2.1 3 = .ok (.istore 4, 2) := by decide +kernel
theorem d_m_mean_5 : decode M_m_mean.2.1 5 = .ok (.iload 4, 2) := by decide +kernel
theorem d_m_mean_7 : decode M_m_mean.2.1 7 = .ok (.aload_n 0, 1) := by decide +kernel
theorem d_m_mean_8 : decode M_m_mean.2.1 8 = .ok (.getfield 103, 3) := by decide +kernel
theorem d_m_mean_11 : decode M_m_mean.2.1 11 = .ok (.if_icmp .ge 28, 3) := by decide +kernel
theorem d_m_mean_14 : decode M_m_mean.2.1 14 = .ok (.iload_n 3, 1) := by decide +kernel
theorem d_m_mean_15 : decode M_m_mean.2.1 15 = .ok (.aload_n 0, 1) := by decide +kernel
theorem d_m_mean_16 : decode M_m_mean.2.1 16 = .ok (.getfield 59, 3) := by decide +kernel
theorem d_m_mean_19 : decode M_m_mean.2.1 19 = .ok (.iload 4, 2) := by decide +kernel
theorem d_m_mean_21 : decode M_m_mean.2.1 21 = .ok (.iaload, 1) := by decide +kernel
theorem d_m_mean_22 : decode M_m_mean.2.1 22 = .ok (.iload_n 1, 1) := by decide +kernel
theorem d_m_mean_23 : decode M_m_mean.2.1 23 = .ok (.if_icmp .ne 7, 3) := by decide +kernel
theorem d_m_mean_26 : decode M_m_mean.2.1 26 = .ok (.iconst 1, 1) := by decide +kernel
theorem d_m_mean_27 : decode M_m_mean.2.1 27 = .ok (.goto 4, 3) := by decide +kernel
theorem d_m_mean_30 : decode M_m_mean.2.1 30 = .ok (.iconst 0, 1) := by decide +kernel
theorem d_m_mean_31 : decode M_m_mean.2.1 31 = .ok (.iadd, 1) := by decide +kernel
theorem d_m_mean_32 : decode M_m_mean.2.1 32 = .ok (.istore_n 3, 1) := by decide +kernel
theorem d_m_mean_33 : decode M_m_mean.2.1 33 = .ok (.iinc 4 1, 3) := by decide +kernel
theorem d_m_mean_36 : decode M_m_mean.2.1 36 = .ok (.goto (-31), 3) := by decide +kernel
theorem d_m_mean_39 : decode M_m_mean.2.1 39 = .ok (.aload_n 0, 1) := by decide +kernel
theorem d_m_mean_40 : decode M_m_mean.2.1 40 = .ok (.getfield 62, 3) := by decide +kernel
theorem d_m_mean_43 : decode M_m_mean.2.1 43 = .ok (.iload_n 1, 1) := by decide +kernel
theorem d_m_mean_44 : decode M_m_mean.2.1 44 = .ok (.iload_n 3, 1) := by decide +kernel
theorem d_m_mean_45 : decode M_m_mean.2.1 45 = .ok (.iastore, 1) := by decide +kernel
theorem d_m_mean_46 : decode M_m_mean.2.1 46 = .ok (.iconst 0, 1) := by decide +kernel
theorem d_m_mean_47 : decode M_m_mean.2.1 47 = .ok (.istore 4, 2) := by decide +kernel
theorem d_m_mean_49 : decode M_m_mean.2.1 49 = .ok (.iload 4, 2) := by decide +kernel
theorem d_m_mean_51 : decode M_m_mean.2.1 51 = .ok (.iload_n 2, 1) := by decide +kernel
theorem d_m_mean_52 : decode M_m_mean.2.1 52 = .ok (.if_icmp .ge 83, 3) := by decide +kernel
theorem d_m_mean_55 : decode M_m_mean.2.1 55 = .ok (.iload_n 3, 1) := by decide +kernel
theorem d_m_mean_56 : decode M_m_mean.2.1 56 = .ok (.ifCond .le 79, 3) := by decide +kernel
theorem d_m_mean_59 : decode M_m_mean.2.1 59 = .ok (.iconst 0, 1) := by decide +kernel
theorem d_m_mean_60 : decode M_m_mean.2.1 60 = .ok (.istore 5, 2) := by decide +kernel
theorem d_m_mean_62 : decode M_m_mean.2.1 62 = .ok (.iconst 0, 1) := by decide +kernel
theorem d_m_mean_63 : decode M_m_mean.2.1 63 = .ok (.istore 6, 2) := by decide +kernel
theorem d_m_mean_65 : decode M_m_mean.2.1 65 = .ok (.iload 6, 2) := by decide +kernel
theorem d_m_mean_67 : decode M_m_mean.2.1 67 = .ok (.aload_n 0, 1) := by decide +kernel
theorem d_m_mean_68 : decode M_m_mean.2.1 68 = .ok (.getfield 103, 3) := by decide +kernel
theorem d_m_mean_71 : decode M_m_mean.2.1 71 = .ok (.if_icmp .ge 41, 3) := by decide +kernel
theorem d_m_mean_74 : decode M_m_mean.2.1 74 = .ok (.iload 5, 2) := by decide +kernel
theorem d_m_mean_76 : decode M_m_mean.2.1 76 = .ok (.aload_n 0, 1) := by decide +kernel
theorem d_m_mean_77 : decode M_m_mean.2.1 77 = .ok (.getfield 59, 3) := by decide +kernel
theorem d_m_mean_80 : decode M_m_mean.2.1 80 = .ok (.iload 6, 2) := by decide +kernel
theorem d_m_mean_82 : decode M_m_mean.2.1 82 = .ok (.iaload, 1) := by decide +kernel
theorem d_m_mean_83 : decode M_m_mean.2.1 83 = .ok (.iload_n 1, 1) := by decide +kernel
theorem d_m_mean_84 : decode M_m_mean.2.1 84 = .ok (.if_icmp .ne 18, 3) := by decide +kernel
theorem d_m_mean_87 : decode M_m_mean.2.1 87 = .ok (.aload_n 0, 1) := by decide +kernel
theorem d_m_mean_88 : decode M_m_mean.2.1 88 = .ok (.getfield 50, 3) := by decide +kernel
theorem d_m_mean_91 : decode M_m_mean.2.1 91 = .ok (.iconst 4, 1) := by decide +kernel
theorem d_m_mean_92 : decode M_m_mean.2.1 92 = .ok (.iload 6, 2) := by decide +kernel
theorem d_m_mean_94 : decode M_m_mean.2.1 94 = .ok (.imul, 1) := by decide +kernel
theorem d_m_mean_95 : decode M_m_mean.2.1 95 = .ok (.iload 4, 2) := by decide +kernel
theorem d_m_mean_97 : decode M_m_mean.2.1 97 = .ok (.iadd, 1) := by decide +kernel
theorem d_m_mean_98 : decode M_m_mean.2.1 98 = .ok (.iaload, 1) := by decide +kernel
theorem d_m_mean_99 : decode M_m_mean.2.1 99 = .ok (.goto 4, 3) := by decide +kernel
theorem d_m_mean_102 : decode M_m_mean.2.1 102 = .ok (.iconst 0, 1) := by decide +kernel
theorem d_m_mean_103 : decode M_m_mean.2.1 103 = .ok (.iadd, 1) := by decide +kernel
theorem d_m_mean_104 : decode M_m_mean.2.1 104 = .ok (.istore 5, 2) := by decide +kernel
theorem d_m_mean_106 : decode M_m_mean.2.1 106 = .ok (.iinc 6 1, 3) := by decide +kernel
theorem d_m_mean_109 : decode M_m_mean.2.1 109 = .ok (.goto (-44), 3) := by decide +kernel
theorem d_m_mean_112 : decode M_m_mean.2.1 112 = .ok (.aload_n 0, 1) := by decide +kernel
theorem d_m_mean_113 : decode M_m_mean.2.1 113 = .ok (.getfield 56, 3) := by decide +kernel
theorem d_m_mean_116 : decode M_m_mean.2.1 116 = .ok (.iconst 4, 1) := by decide +kernel
theorem d_m_mean_117 : decode M_m_mean.2.1 117 = .ok (.iload_n 1, 1) := by decide +kernel
theorem d_m_mean_118 : decode M_m_mean.2.1 118 = .ok (.imul, 1) := by decide +kernel
theorem d_m_mean_119 : decode M_m_mean.2.1 119 = .ok (.iload 4, 2) := by decide +kernel
theorem d_m_mean_121 : decode M_m_mean.2.1 121 = .ok (.iadd, 1) := by decide +kernel
theorem d_m_mean_122 : decode M_m_mean.2.1 122 = .ok (.iload 5, 2) := by decide +kernel
theorem d_m_mean_124 : decode M_m_mean.2.1 124 = .ok (.iload_n 3, 1) := by decide +kernel
theorem d_m_mean_125 : decode M_m_mean.2.1 125 = .ok (.invokestatic 120, 3) := by decide +kernel
theorem d_m_mean_128 : decode M_m_mean.2.1 128 = .ok (.iastore, 1) := by decide +kernel
theorem d_m_mean_129 : decode M_m_mean.2.1 129 = .ok (.iinc 4 1, 3) := by decide +kernel
theorem d_m_mean_132 : decode M_m_mean.2.1 132 = .ok (.goto (-83), 3) := by decide +kernel
theorem d_m_mean_135 : decode M_m_mean.2.1 135 = .ok (.return_, 1) := by decide +kernel
theorem d_m_floor_0 : decode M_m_floor.2.1 0 = .ok (.iload_n 0, 1) := by decide +kernel
theorem d_m_floor_1 : decode M_m_floor.2.1 1 = .ok (.iload_n 1, 1) := by decide +kernel
theorem d_m_floor_2 : decode M_m_floor.2.1 2 = .ok (.idiv, 1) := by decide +kernel
theorem d_m_floor_3 : decode M_m_floor.2.1 3 = .ok (.istore_n 2, 1) := by decide +kernel
theorem d_m_floor_4 : decode M_m_floor.2.1 4 = .ok (.iload_n 0, 1) := by decide +kernel
theorem d_m_floor_5 : decode M_m_floor.2.1 5 = .ok (.ifCond .ge 16, 3) := by decide +kernel
theorem d_m_floor_8 : decode M_m_floor.2.1 8 = .ok (.iload_n 2, 1) := by decide +kernel
theorem d_m_floor_9 : decode M_m_floor.2.1 9 = .ok (.iload_n 1, 1) := by decide +kernel
theorem d_m_floor_10 : decode M_m_floor.2.1 10 = .ok (.imul, 1) := by decide +kernel
theorem d_m_floor_11 : decode M_m_floor.2.1 11 = .ok (.iload_n 0, 1) := by decide +kernel
theorem d_m_floor_12 : decode M_m_floor.2.1 12 = .ok (.if_icmp .eq 9, 3) := by decide +kernel
theorem d_m_floor_15 : decode M_m_floor.2.1 15 = .ok (.iload_n 2, 1) := by decide +kernel
theorem d_m_floor_16 : decode M_m_floor.2.1 16 = .ok (.iconst 1, 1) := by decide +kernel
theorem d_m_floor_17 : decode M_m_floor.2.1 17 = .ok (.isub, 1) := by decide +kernel
theorem d_m_floor_18 : decode M_m_floor.2.1 18 = .ok (.goto 4, 3) := by decide +kernel
theorem d_m_floor_21 : decode M_m_floor.2.1 21 = .ok (.iload_n 2, 1) := by decide +kernel
theorem d_m_floor_22 : decode M_m_floor.2.1 22 = .ok (.ireturn, 1) := by decide +kernel
theorem d_m_fill_0 : decode M_m_fill.2.1 0 = .ok (.iconst 0, 1) := by decide +kernel
theorem d_m_fill_1 : decode M_m_fill.2.1 1 = .ok (.istore_n 3, 1) := by decide +kernel
theorem d_m_fill_2 : decode M_m_fill.2.1 2 = .ok (.iload_n 3, 1) := by decide +kernel
theorem d_m_fill_3 : decode M_m_fill.2.1 3 = .ok (.iload_n 1, 1) := by decide +kernel
theorem d_m_fill_4 : decode M_m_fill.2.1 4 = .ok (.if_icmp .ge 141, 3) := by decide +kernel
theorem d_m_fill_7 : decode M_m_fill.2.1 7 = .ok (.aload_n 0, 1) := by decide +kernel
theorem d_m_fill_8 : decode M_m_fill.2.1 8 = .ok (.iload_n 3, 1) := by decide +kernel
theorem d_m_fill_9 : decode M_m_fill.2.1 9 = .ok (.invokevirtual 124, 3) := by decide +kernel
theorem d_m_fill_12 : decode M_m_fill.2.1 12 = .ok (.ifCond .ne 127, 3) := by decide +kernel
theorem d_m_fill_15 : decode M_m_fill.2.1 15 = .ok (.iconst 0, 1) := by decide +kernel
theorem d_m_fill_16 : decode M_m_fill.2.1 16 = .ok (.istore 4, 2) := by decide +kernel
theorem d_m_fill_18 : decode M_m_fill.2.1 18 = .ok (.iconst 1, 1) := by decide +kernel
theorem d_m_fill_19 : decode M_m_fill.2.1 19 = .ok (.istore 5, 2) := by decide +kernel
theorem d_m_fill_21 : decode M_m_fill.2.1 21 = .ok (.iload 5, 2) := by decide +kernel
theorem d_m_fill_23 : decode M_m_fill.2.1 23 = .ok (.iload_n 1, 1) := by decide +kernel
theorem d_m_fill_24 : decode M_m_fill.2.1 24 = .ok (.if_icmp .ge 35, 3) := by decide +kernel
theorem d_m_fill_27 : decode M_m_fill.2.1 27 = .ok (.aload_n 0, 1) := by decide +kernel
theorem d_m_fill_28 : decode M_m_fill.2.1 28 = .ok (.getfield 62, 3) := by decide +kernel
theorem d_m_fill_31 : decode M_m_fill.2.1 31 = .ok (.iload 5, 2) := by decide +kernel
theorem d_m_fill_33 : decode M_m_fill.2.1 33 = .ok (.iaload, 1) := by decide +kernel
theorem d_m_fill_34 : decode M_m_fill.2.1 34 = .ok (.aload_n 0, 1) := by decide +kernel
theorem d_m_fill_35 : decode M_m_fill.2.1 35 = .ok (.getfield 62, 3) := by decide +kernel
theorem d_m_fill_38 : decode M_m_fill.2.1 38 = .ok (.iload 4, 2) := by decide +kernel
theorem d_m_fill_40 : decode M_m_fill.2.1 40 = .ok (.iaload, 1) := by decide +kernel
theorem d_m_fill_41 : decode M_m_fill.2.1 41 = .ok (.if_icmp .le 8, 3) := by decide +kernel
theorem d_m_fill_44 : decode M_m_fill.2.1 44 = .ok (.iload 5, 2) := by decide +kernel
theorem d_m_fill_46 : decode M_m_fill.2.1 46 = .ok (.goto 5, 3) := by decide +kernel
theorem d_m_fill_49 : decode M_m_fill.2.1 49 = .ok (.iload 4, 2) := by decide +kernel
theorem d_m_fill_51 : decode M_m_fill.2.1 51 = .ok (.istore 4, 2) := by decide +kernel
theorem d_m_fill_53 : decode M_m_fill.2.1 53 = .ok (.iinc 5 1, 3) := by decide +kernel
theorem d_m_fill_56 : decode M_m_fill.2.1 56 = .ok (.goto (-35), 3) := by decide +kernel
theorem d_m_fill_59 : decode M_m_fill.2.1 59 = .ok (.iconst 0, 1) := by decide +kernel
theorem d_m_fill_60 : decode M_m_fill.2.1 60 = .ok (.istore 5, 2) := by decide +kernel
theorem d_m_fill_62 : decode M_m_fill.2.1 62 = .ok (.iload 5, 2) := by decide +kernel
theorem d_m_fill_64 : decode M_m_fill.2.1 64 = .ok (.iload_n 2, 1) := by decide +kernel
theorem d_m_fill_65 : decode M_m_fill.2.1 65 = .ok (.if_icmp .ge 43, 3) := by decide +kernel
theorem d_m_fill_68 : decode M_m_fill.2.1 68 = .ok (.aload_n 0, 1) := by decide +kernel
theorem d_m_fill_69 : decode M_m_fill.2.1 69 = .ok (.getfield 56, 3) := by decide +kernel
theorem d_m_fill_72 : decode M_m_fill.2.1 72 = .ok (.iconst 4, 1) := by decide +kernel
theorem d_m_fill_73 : decode M_m_fill.2.1 73 = .ok (.iload_n 3, 1) := by decide +kernel
theorem d_m_fill_74 : decode M_m_fill.2.1 74 = .ok (.imul, 1) := by decide +kernel
theorem d_m_fill_75 : decode M_m_fill.2.1 75 = .ok (.iload 5, 2) := by decide +kernel
theorem d_m_fill_77 : decode M_m_fill.2.1 77 = .ok (.iadd, 1) := by decide +kernel
theorem d_m_fill_78 : decode M_m_fill.2.1 78 = .ok (.aload_n 0, 1) := by decide +kernel
theorem d_m_fill_79 : decode M_m_fill.2.1 79 = .ok (.getfield 56, 3) := by decide +kernel
theorem d_m_fill_82 : decode M_m_fill.2.1 82 = .ok (.iconst 4, 1) := by decide +kernel
theorem d_m_fill_83 : decode M_m_fill.2.1 83 = .ok (.iload 4, 2) := by decide +kernel
theorem d_m_fill_85 : decode M_m_fill.2.1 85 = .ok (.imul, 1) := by decide +kernel
theorem d_m_fill_86 : decode M_m_fill.2.1 86 = .ok (.iload 5, 2) := by decide +kernel
theorem d_m_fill_88 : decode M_m_fill.2.1 88 = .ok (.iadd, 1) := by decide +kernel
theorem d_m_fill_89 : decode M_m_fill.2.1 89 = .ok (.iaload, 1) := by decide +kernel
theorem d_m_fill_90 : decode M_m_fill.2.1 90 = .ok (.iload 5, 2) := by decide +kernel
theorem d_m_fill_92 : decode M_m_fill.2.1 92 = .ok (.ifCond .ne 7, 3) := by decide +kernel
theorem d_m_fill_95 : decode M_m_fill.2.1 95 = .ok (.iconst 1, 1) := by decide +kernel
theorem d_m_fill_96 : decode M_m_fill.2.1 96 = .ok (.goto 4, 3) := by decide +kernel
theorem d_m_fill_99 : decode M_m_fill.2.1 99 = .ok (.iconst 0, 1) := by decide +kernel
theorem d_m_fill_100 : decode M_m_fill.2.1 100 = .ok (.iadd, 1) := by decide +kernel
theorem d_m_fill_101 : decode M_m_fill.2.1 101 = .ok (.iastore, 1) := by decide +kernel
theorem d_m_fill_102 : decode M_m_fill.2.1 102 = .ok (.iinc 5 1, 3) := by decide +kernel
theorem d_m_fill_105 : decode M_m_fill.2.1 105 = .ok (.goto (-43), 3) := by decide +kernel
theorem d_m_fill_108 : decode M_m_fill.2.1 108 = .ok (.aload_n 0, 1) := by decide +kernel
theorem d_m_fill_109 : decode M_m_fill.2.1 109 = .ok (.getfield 62, 3) := by decide +kernel
theorem d_m_fill_112 : decode M_m_fill.2.1 112 = .ok (.iload 4, 2) := by decide +kernel
theorem d_m_fill_114 : decode M_m_fill.2.1 114 = .ok (.iaload, 1) := by decide +kernel
theorem d_m_fill_115 : decode M_m_fill.2.1 115 = .ok (.iconst 2, 1) := by decide +kernel
theorem d_m_fill_116 : decode M_m_fill.2.1 116 = .ok (.idiv, 1) := by decide +kernel
theorem d_m_fill_117 : decode M_m_fill.2.1 117 = .ok (.istore 5, 2) := by decide +kernel
theorem d_m_fill_119 : decode M_m_fill.2.1 119 = .ok (.aload_n 0, 1) := by decide +kernel
theorem d_m_fill_120 : decode M_m_fill.2.1 120 = .ok (.getfield 62, 3) := by decide +kernel
theorem d_m_fill_123 : decode M_m_fill.2.1 123 = .ok (.iload 4, 2) := by decide +kernel
theorem d_m_fill_125 : decode M_m_fill.2.1 125 = .ok (.dup2, 1) := by decide +kernel
theorem d_m_fill_126 : decode M_m_fill.2.1 126 = .ok (.iaload, 1) := by decide +kernel
theorem d_m_fill_127 : decode M_m_fill.2.1 127 = .ok (.iload 5, 2) := by decide +kernel
theorem d_m_fill_129 : decode M_m_fill.2.1 129 = .ok (.isub, 1) := by decide +kernel
theorem d_m_fill_130 : decode M_m_fill.2.1 130 = .ok (.iastore, 1) := by decide +kernel
theorem d_m_fill_131 : decode M_m_fill.2.1 131 = .ok (.aload_n 0, 1) := by decide +kernel
theorem d_m_fill_132 : decode M_m_fill.2.1 132 = .ok (.getfield 62, 3) := by decide +kernel
theorem d_m_fill_135 : decode M_m_fill.2.1 135 = .ok (.iload_n 3, 1) := by decide +kernel
theorem d_m_fill_136 : decode M_m_fill.2.1 136 = .ok (.iload 5, 2) := by decide +kernel
theorem d_m_fill_138 : decode M_m_fill.2.1 138 = .ok (.iastore, 1) := by decide +kernel
theorem d_m_fill_139 : decode M_m_fill.2.1 139 = .ok (.iinc 3 1, 3) := by decide +kernel
theorem d_m_fill_142 : decode M_m_fill.2.1 142 = .ok (.goto (-140), 3) := by decide +kernel
theorem d_m_fill_145 : decode M_m_fill.2.1 145 = .ok (.return_, 1) := by decide +kernel
theorem d_m_hasMember_0 : decode M_m_hasMember.2.1 0 = .ok (.iconst 0, 1) := by decide +kernel
theorem d_m_hasMember_1 : decode M_m_hasMember.2.1 1 = .ok (.istore_n 2, 1) := by decide +kernel
theorem d_m_hasMember_2 : decode M_m_hasMember.2.1 2 = .ok (.iload_n 2, 1) := by decide +kernel
theorem d_m_hasMember_3 : decode M_m_hasMember.2.1 3 = .ok (.aload_n 0, 1) := by decide +kernel
theorem d_m_hasMember_4 : decode M_m_hasMember.2.1 4 = .ok (.getfield 103, 3) := by decide +kernel
theorem d_m_hasMember_7 : decode M_m_hasMember.2.1 7 = .ok (.if_icmp .ge 21, 3) := by decide +kernel
theorem d_m_hasMember_10 : decode M_m_hasMember.2.1 10 = .ok (.aload_n 0, 1) := by decide +kernel
theorem d_m_hasMember_11 : decode M_m_hasMember.2.1 11 = .ok (.getfield 59, 3) := by decide +kernel
theorem d_m_hasMember_14 : decode M_m_hasMember.2.1 14 = .ok (.iload_n 2, 1) := by decide +kernel
theorem d_m_hasMember_15 : decode M_m_hasMember.2.1 15 = .ok (.iaload, 1) := by decide +kernel
theorem d_m_hasMember_16 : decode M_m_hasMember.2.1 16 = .ok (.iload_n 1, 1) := by decide +kernel
theorem d_m_hasMember_17 : decode M_m_hasMember.2.1 17 = .ok (.if_icmp .ne 5, 3) := by decide +kernel
theorem d_m_hasMember_20 : decode M_m_hasMember.2.1 20 = .ok (.iconst 1, 1) := by decide +kernel
theorem d_m_hasMember_21 : decode M_m_hasMember.2.1 21 = .ok (.ireturn, 1) := by decide +kernel
theorem d_m_hasMember_22 : decode M_m_hasMember.2.1 22 = .ok (.iinc 2 1, 3) := by decide +kernel
theorem d_m_hasMember_25 : decode M_m_hasMember.2.1 25 = .ok (.goto (-23), 3) := by decide +kernel
theorem d_m_hasMember_28 : decode M_m_hasMember.2.1 28 = .ok (.iconst 0, 1) := by decide +kernel
theorem d_m_hasMember_29 : decode M_m_hasMember.2.1 29 = .ok (.ireturn, 1) := by decide +kernel
theorem d_m_parts_0 : decode M_m_parts.2.1 0 = .ok (.aload_n 0, 1) := by decide +kernel
theorem d_m_parts_1 : decode M_m_parts.2.1 1 = .ok (.getfield 128, 3) := by decide +kernel
theorem d_m_parts_4 : decode M_m_parts.2.1 4 = .ok (.ifCond .ne 7, 3) := by decide +kernel
theorem d_m_parts_7 : decode M_m_parts.2.1 7 = .ok (.iconst 2, 1) := by decide +kernel
theorem d_m_parts_8 : decode M_m_parts.2.1 8 = .ok (.goto 16, 3) := by decide +kernel
theorem d_m_parts_11 : decode M_m_parts.2.1 11 = .ok (.aload_n 0, 1) := by decide +kernel
theorem d_m_parts_12 : decode M_m_parts.2.1 12 = .ok (.getfield 128, 3) := by decide +kernel
theorem d_m_parts_15 : decode M_m_parts.2.1 15 = .ok (.iconst 1, 1) := by decide +kernel
theorem d_m_parts_16 : decode M_m_parts.2.1 16 = .ok (.if_icmp .ne 7, 3) := by decide +kernel
theorem d_m_parts_19 : decode M_m_parts.2.1 19 = .ok (.iconst 4, 1) := by decide +kernel
theorem d_m_parts_20 : decode M_m_parts.2.1 20 = .ok (.goto 4, 3) := by decide +kernel
theorem d_m_parts_23 : decode M_m_parts.2.1 23 = .ok (.iconst 0, 1) := by decide +kernel
theorem d_m_parts_24 : decode M_m_parts.2.1 24 = .ok (.ireturn, 1) := by decide +kernel
theorem d_m_learn_0 : decode M_m_learn.2.1 0 = .ok (.iconst 0, 1) := by decide +kernel
theorem d_m_learn_1 : decode M_m_learn.2.1 1 = .ok (.istore_n 3, 1) := by decide +kernel
theorem d_m_learn_2 : decode M_m_learn.2.1 2 = .ok (.iload_n 3, 1) := by decide +kernel
theorem d_m_learn_3 : decode M_m_learn.2.1 3 = .ok (.aload_n 0, 1) := by decide +kernel
theorem d_m_learn_4 : decode M_m_learn.2.1 4 = .ok (.getfield 103, 3) := by decide +kernel
theorem d_m_learn_7 : decode M_m_learn.2.1 7 = .ok (.if_icmp .ge 53, 3) := by decide +kernel
theorem d_m_learn_10 : decode M_m_learn.2.1 10 = .ok (.aload_n 0, 1) := by decide +kernel
theorem d_m_learn_11 : decode M_m_learn.2.1 11 = .ok (.getfield 50, 3) := by decide +kernel
theorem d_m_learn_14 : decode M_m_learn.2.1 14 = .ok (.iconst 4, 1) := by decide +kernel
theorem d_m_learn_15 : decode M_m_learn.2.1 15 = .ok (.iload_n 3, 1) := by decide +kernel
theorem d_m_learn_16 : decode M_m_learn.2.1 16 = .ok (.imul, 1) := by decide +kernel
theorem d_m_learn_17 : decode M_m_learn.2.1 17 = .ok (.aload_n 0, 1) := by decide +kernel
theorem d_m_learn_18 : decode M_m_learn.2.1 18 = .ok (.getfield 53, 3) := by decide +kernel
theorem d_m_learn_21 : decode M_m_learn.2.1 21 = .ok (.iconst 4, 1) := by decide +kernel
theorem d_m_learn_22 : decode M_m_learn.2.1 22 = .ok (.iload_n 3, 1) := by decide +kernel
theorem d_m_learn_23 : decode M_m_learn.2.1 23 = .ok (.imul, 1) := by decide +kernel
theorem d_m_learn_24 : decode M_m_learn.2.1 24 = .ok (.iconst 2, 1) := by decide +kernel
theorem d_m_learn_25 : decode M_m_learn.2.1 25 = .ok (.iload_n 1, 1) := by decide +kernel
theorem d_m_learn_26 : decode M_m_learn.2.1 26 = .ok (.imul, 1) := by decide +kernel
theorem d_m_learn_27 : decode M_m_learn.2.1 27 = .ok (.iadd, 1) := by decide +kernel
theorem d_m_learn_28 : decode M_m_learn.2.1 28 = .ok (.iaload, 1) := by decide +kernel
theorem d_m_learn_29 : decode M_m_learn.2.1 29 = .ok (.iastore, 1) := by decide +kernel
theorem d_m_learn_30 : decode M_m_learn.2.1 30 = .ok (.aload_n 0, 1) := by decide +kernel
theorem d_m_learn_31 : decode M_m_learn.2.1 31 = .ok (.getfield 50, 3) := by decide +kernel
theorem d_m_learn_34 : decode M_m_learn.2.1 34 = .ok (.iconst 4, 1) := by decide +kernel
theorem d_m_learn_35 : decode M_m_learn.2.1 35 = .ok (.iload_n 3, 1) := by decide +kernel
theorem d_m_learn_36 : decode M_m_learn.2.1 36 = .ok (.imul, 1) := by decide +kernel
theorem d_m_learn_37 : decode M_m_learn.2.1 37 = .ok (.iconst 1, 1) := by decide +kernel
theorem d_m_learn_38 : decode M_m_learn.2.1 38 = .ok (.iadd, 1) := by decide +kernel
theorem d_m_learn_39 : decode M_m_learn.2.1 39 = .ok (.aload_n 0, 1) := by decide +kernel
theorem d_m_learn_40 : decode M_m_learn.2.1 40 = .ok (.getfield 53, 3) := by decide +kernel
theorem d_m_learn_43 : decode M_m_learn.2.1 43 = .ok (.iconst 4, 1) := by decide +kernel
theorem d_m_learn_44 : decode M_m_learn.2.1 44 = .ok (.iload_n 3, 1) := by decide +kernel
theorem d_m_learn_45 : decode M_m_learn.2.1 45 = .ok (.imul, 1) := by decide +kernel
theorem d_m_learn_46 : decode M_m_learn.2.1 46 = .ok (.iconst 2, 1) := by decide +kernel
theorem d_m_learn_47 : decode M_m_learn.2.1 47 = .ok (.iload_n 1, 1) := by decide +kernel
theorem d_m_learn_48 : decode M_m_learn.2.1 48 = .ok (.imul, 1) := by decide +kernel
theorem d_m_learn_49 : decode M_m_learn.2.1 49 = .ok (.iadd, 1) := by decide +kernel
theorem d_m_learn_50 : decode M_m_learn.2.1 50 = .ok (.iconst 1, 1) := by decide +kernel
theorem d_m_learn_51 : decode M_m_learn.2.1 51 = .ok (.iadd, 1) := by decide +kernel
theorem d_m_learn_52 : decode M_m_learn.2.1 52 = .ok (.iaload, 1) := by decide +kernel
theorem d_m_learn_53 : decode M_m_learn.2.1 53 = .ok (.iastore, 1) := by decide +kernel
theorem d_m_learn_54 : decode M_m_learn.2.1 54 = .ok (.iinc 3 1, 3) := by decide +kernel
theorem d_m_learn_57 : decode M_m_learn.2.1 57 = .ok (.goto (-55), 3) := by decide +kernel
theorem d_m_learn_60 : decode M_m_learn.2.1 60 = .ok (.aload_n 0, 1) := by decide +kernel
theorem d_m_learn_61 : decode M_m_learn.2.1 61 = .ok (.aload_n 0, 1) := by decide +kernel
theorem d_m_learn_62 : decode M_m_learn.2.1 62 = .ok (.getfield 137, 3) := by decide +kernel
theorem d_m_learn_65 : decode M_m_learn.2.1 65 = .ok (.iconst 2, 1) := by decide +kernel
theorem d_m_learn_66 : decode M_m_learn.2.1 66 = .ok (.iload_n 2, 1) := by decide +kernel
theorem d_m_learn_67 : decode M_m_learn.2.1 67 = .ok (.invokevirtual 140, 3) := by decide +kernel
theorem d_m_learn_70 : decode M_m_learn.2.1 70 = .ok (.iconst 0, 1) := by decide +kernel
theorem d_m_learn_71 : decode M_m_learn.2.1 71 = .ok (.istore_n 3, 1) := by decide +kernel
theorem d_m_learn_72 : decode M_m_learn.2.1 72 = .ok (.iload_n 3, 1) := by decide +kernel
theorem d_m_learn_73 : decode M_m_learn.2.1 73 = .ok (.aload_n 0, 1) := by decide +kernel
theorem d_m_learn_74 : decode M_m_learn.2.1 74 = .ok (.getfield 137, 3) := by decide +kernel
theorem d_m_learn_77 : decode M_m_learn.2.1 77 = .ok (.if_icmp .ge 55, 3) := by decide +kernel
theorem d_m_learn_80 : decode M_m_learn.2.1 80 = .ok (.aload_n 0, 1) := by decide +kernel
theorem d_m_learn_81 : decode M_m_learn.2.1 81 = .ok (.getfield 19, 3) := by decide +kernel
theorem d_m_learn_84 : decode M_m_learn.2.1 84 = .ok (.bipush 8, 2) := by decide +kernel
theorem d_m_learn_86 : decode M_m_learn.2.1 86 = .ok (.iload_n 1, 1) := by decide +kernel
theorem d_m_learn_87 : decode M_m_learn.2.1 87 = .ok (.imul, 1) := by decide +kernel
theorem d_m_learn_88 : decode M_m_learn.2.1 88 = .ok (.iconst 2, 1) := by decide +kernel
theorem d_m_learn_89 : decode M_m_learn.2.1 89 = .ok (.iload_n 3, 1) := by decide +kernel
theorem d_m_learn_90 : decode M_m_learn.2.1 90 = .ok (.imul, 1) := by decide +kernel
theorem d_m_learn_91 : decode M_m_learn.2.1 91 = .ok (.iadd, 1) := by decide +kernel
theorem d_m_learn_92 : decode M_m_learn.2.1 92 = .ok (.aload_n 0, 1) := by decide +kernel
theorem d_m_learn_93 : decode M_m_learn.2.1 93 = .ok (.getfield 56, 3) := by decide +kernel
theorem d_m_learn_96 : decode M_m_learn.2.1 96 = .ok (.iconst 4, 1) := by decide +kernel
theorem d_m_learn_97 : decode M_m_learn.2.1 97 = .ok (.iload_n 3, 1) := by decide +kernel
theorem d_m_learn_98 : decode M_m_learn.2.1 98 = .ok (.imul, 1) := by decide +kernel
theorem d_m_learn_99 : decode M_m_learn.2.1 99 = .ok (.iaload, 1) := by decide +kernel
theorem d_m_learn_100 : decode M_m_learn.2.1 100 = .ok (.iastore, 1) := by decide +kernel
theorem d_m_learn_101 : decode M_m_learn.2.1 101 = .ok (.aload_n 0, 1) := by decide +kernel
theorem d_m_learn_102 : decode M_m_learn.2.1 102 = .ok (.getfield 19, 3) := by decide +kernel
theorem d_m_learn_105 : decode M_m_learn.2.1 105 = .ok (.bipush 8, 2) := by decide +kernel
theorem d_m_learn_107 : decode M_m_learn.2.1 107 = .ok (.iload_n 1, 1) := by decide +kernel
theorem d_m_learn_108 : decode M_m_learn.2.1 108 = .ok (.imul, 1) := by decide +kernel
theorem d_m_learn_109 : decode M_m_learn.2.1 109 = .ok (.iconst 2, 1) := by decide +kernel
theorem d_m_learn_110 : decode M_m_learn.2.1 110 = .ok (.iload_n 3, 1) := by decide +kernel
theorem d_m_learn_111 : decode M_m_learn.2.1 111 = .ok (.imul, 1) := by decide +kernel
theorem d_m_learn_112 : decode M_m_learn.2.1 112 = .ok (.iadd, 1) := by decide +kernel
theorem d_m_learn_113 : decode M_m_learn.2.1 113 = .ok (.iconst 1, 1) := by decide +kernel
theorem d_m_learn_114 : decode M_m_learn.2.1 114 = .ok (.iadd, 1) := by decide +kernel
theorem d_m_learn_115 : decode M_m_learn.2.1 115 = .ok (.aload_n 0, 1) := by decide +kernel
theorem d_m_learn_116 : decode M_m_learn.2.1 116 = .ok (.getfield 56, 3) := by decide +kernel
theorem d_m_learn_119 : decode M_m_learn.2.1 119 = .ok (.iconst 4, 1) := by decide +kernel
theorem d_m_learn_120 : decode M_m_learn.2.1 120 = .ok (.iload_n 3, 1) := by decide +kernel
theorem d_m_learn_121 : decode M_m_learn.2.1 121 = .ok (.imul, 1) := by decide +kernel
theorem d_m_learn_122 : decode M_m_learn.2.1 122 = .ok (.iconst 1, 1) := by decide +kernel
theorem d_m_learn_123 : decode M_m_learn.2.1 123 = .ok (.iadd, 1) := by decide +kernel
theorem d_m_learn_124 : decode M_m_learn.2.1 124 = .ok (.iaload, 1) := by decide +kernel
theorem d_m_learn_125 : decode M_m_learn.2.1 125 = .ok (.iastore, 1) := by decide +kernel
theorem d_m_learn_126 : decode M_m_learn.2.1 126 = .ok (.iinc 3 1, 3) := by decide +kernel
theorem d_m_learn_129 : decode M_m_learn.2.1 129 = .ok (.goto (-57), 3) := by decide +kernel
theorem d_m_learn_132 : decode M_m_learn.2.1 132 = .ok (.return_, 1) := by decide +kernel
theorem d_m_spread_0 : decode M_m_spread.2.1 0 = .ok (.aload_n 0, 1) := by decide +kernel
theorem d_m_spread_1 : decode M_m_spread.2.1 1 = .ok (.getfield 53, 3) := by decide +kernel
theorem d_m_spread_4 : decode M_m_spread.2.1 4 = .ok (.iload_n 1, 1) := by decide +kernel
theorem d_m_spread_5 : decode M_m_spread.2.1 5 = .ok (.iaload, 1) := by decide +kernel
theorem d_m_spread_6 : decode M_m_spread.2.1 6 = .ok (.istore_n 2, 1) := by decide +kernel
theorem d_m_spread_7 : decode M_m_spread.2.1 7 = .ok (.aload_n 0, 1) := by decide +kernel
theorem d_m_spread_8 : decode M_m_spread.2.1 8 = .ok (.getfield 53, 3) := by decide +kernel
theorem d_m_spread_11 : decode M_m_spread.2.1 11 = .ok (.iload_n 1, 1) := by decide +kernel
theorem d_m_spread_12 : decode M_m_spread.2.1 12 = .ok (.iaload, 1) := by decide +kernel
theorem d_m_spread_13 : decode M_m_spread.2.1 13 = .ok (.istore_n 3, 1) := by decide +kernel
theorem d_m_spread_14 : decode M_m_spread.2.1 14 = .ok (.iconst 1, 1) := by decide +kernel
theorem d_m_spread_15 : decode M_m_spread.2.1 15 = .ok (.istore 4, 2) := by decide +kernel
theorem d_m_spread_17 : decode M_m_spread.2.1 17 = .ok (.iload 4, 2) := by decide +kernel
theorem d_m_spread_19 : decode M_m_spread.2.1 19 = .ok (.aload_n 0, 1) := by decide +kernel
theorem d_m_spread_20 : decode M_m_spread.2.1 20 = .ok (.getfield 103, 3) := by decide +kernel
theorem d_m_spread_23 : decode M_m_spread.2.1 23 = .ok (.if_icmp .ge 48, 3) := by decide +kernel
theorem d_m_spread_26 : decode M_m_spread.2.1 26 = .ok (.aload_n 0, 1) := by decide +kernel
theorem d_m_spread_27 : decode M_m_spread.2.1 27 = .ok (.getfield 53, 3) := by decide +kernel
theorem d_m_spread_30 : decode M_m_spread.2.1 30 = .ok (.iconst 4, 1) := by decide +kernel
theorem d_m_spread_31 : decode M_m_spread.2.1 31 = .ok (.iload 4, 2) := by decide +kernel
theorem d_m_spread_33 : decode M_m_spread.2.1 33 = .ok (.imul, 1) := by decide +kernel
theorem d_m_spread_34 : decode M_m_spread.2.1 34 = .ok (.iload_n 1, 1) := by decide +kernel
theorem d_m_spread_35 : decode M_m_spread.2.1 35 = .ok (.iadd, 1) := by decide +kernel
theorem d_m_spread_36 : decode M_m_spread.2.1 36 = .ok (.iaload, 1) := by decide +kernel
theorem d_m_spread_37 : decode M_m_spread.2.1 37 = .ok (.istore 5, 2) := by decide +kernel
theorem d_m_spread_39 : decode M_m_spread.2.1 39 = .ok (.iload 5, 2) := by decide +kernel
end
section
theorem d_m_spread_41 : decode M_m_spread.2.1 41 = .ok (.iload_n 2, 1) := by decide +kernel
theorem d_m_spread_42 : decode M_m_spread.2.1 42 = .ok (.if_icmp .ge 8, 3) := by decide +kernel
theorem d_m_spread_45 : decode M_m_spread.2.1 45 = .ok (.iload 5, 2) := by decide +kernel
theorem d_m_spread_47 : decode M_m_spread.2.1 47 = .ok (.goto 4, 3) := by decide +kernel
theorem d_m_spread_50 : decode M_m_spread.2.1 50 = .ok (.iload_n 2, 1) := by decide +kernel
theorem d_m_spread_51 : decode M_m_spread.2.1 51 = .ok (.istore_n 2, 1) := by decide +kernel
theorem d_m_spread_52 : decode M_m_spread.2.1 52 = .ok (.iload 5, 2) := by decide +kernel
theorem d_m_spread_54 : decode M_m_spread.2.1 54 = .ok (.iload_n 3, 1) := by decide +kernel
theorem d_m_spread_55 : decode M_m_spread.2.1 55 = .ok (.if_icmp .le 8, 3) := by decide +kernel
theorem d_m_spread_58 : decode M_m_spread.2.1 58 = .ok (.iload 5, 2) := by decide +kernel
theorem d_m_spread_60 : decode M_m_spread.2.1 60 = .ok (.goto 4, 3) := by decide +kernel
theorem d_m_spread_63 : decode M_m_spread.2.1 63 = .ok (.iload_n 3, 1) := by decide +kernel
theorem d_m_spread_64 : decode M_m_spread.2.1 64 = .ok (.istore_n 3, 1) := by decide +kernel
theorem d_m_spread_65 : decode M_m_spread.2.1 65 = .ok (.iinc 4 1, 3) := by decide +kernel
theorem d_m_spread_68 : decode M_m_spread.2.1 68 = .ok (.goto (-51), 3) := by decide +kernel
theorem d_m_spread_71 : decode M_m_spread.2.1 71 = .ok (.iconst 0, 1) := by decide +kernel
theorem d_m_spread_72 : decode M_m_spread.2.1 72 = .ok (.istore 4, 2) := by decide +kernel
theorem d_m_spread_74 : decode M_m_spread.2.1 74 = .ok (.iload 4, 2) := by decide +kernel
theorem d_m_spread_76 : decode M_m_spread.2.1 76 = .ok (.aload_n 0, 1) := by decide +kernel
theorem d_m_spread_77 : decode M_m_spread.2.1 77 = .ok (.getfield 137, 3) := by decide +kernel
theorem d_m_spread_80 : decode M_m_spread.2.1 80 = .ok (.if_icmp .ge 50, 3) := by decide +kernel
theorem d_m_spread_83 : decode M_m_spread.2.1 83 = .ok (.aload_n 0, 1) := by decide +kernel
theorem d_m_spread_84 : decode M_m_spread.2.1 84 = .ok (.getfield 19, 3) := by decide +kernel
theorem d_m_spread_87 : decode M_m_spread.2.1 87 = .ok (.bipush 8, 2) := by decide +kernel
theorem d_m_spread_89 : decode M_m_spread.2.1 89 = .ok (.iload_n 1, 1) := by decide +kernel
theorem d_m_spread_90 : decode M_m_spread.2.1 90 = .ok (.imul, 1) := by decide +kernel
theorem d_m_spread_91 : decode M_m_spread.2.1 91 = .ok (.iconst 2, 1) := by decide +kernel
theorem d_m_spread_92 : decode M_m_spread.2.1 92 = .ok (.iload 4, 2) := by decide +kernel
theorem d_m_spread_94 : decode M_m_spread.2.1 94 = .ok (.imul, 1) := by decide +kernel
theorem d_m_spread_95 : decode M_m_spread.2.1 95 = .ok (.iadd, 1) := by decide +kernel
theorem d_m_spread_96 : decode M_m_spread.2.1 96 = .ok (.aload_n 0, 1) := by decide +kernel
theorem d_m_spread_97 : decode M_m_spread.2.1 97 = .ok (.getfield 137, 3) := by decide +kernel
theorem d_m_spread_100 : decode M_m_spread.2.1 100 = .ok (.iconst 1, 1) := by decide +kernel
theorem d_m_spread_101 : decode M_m_spread.2.1 101 = .ok (.if_icmp .ne 7, 3) := by decide +kernel
theorem d_m_spread_104 : decode M_m_spread.2.1 104 = .ok (.iload_n 2, 1) := by decide +kernel
theorem d_m_spread_105 : decode M_m_spread.2.1 105 = .ok (.goto 18, 3) := by decide +kernel
theorem d_m_spread_108 : decode M_m_spread.2.1 108 = .ok (.iload_n 2, 1) := by decide +kernel
theorem d_m_spread_109 : decode M_m_spread.2.1 109 = .ok (.iload_n 3, 1) := by decide +kernel
theorem d_m_spread_110 : decode M_m_spread.2.1 110 = .ok (.iload_n 2, 1) := by decide +kernel
theorem d_m_spread_111 : decode M_m_spread.2.1 111 = .ok (.isub, 1) := by decide +kernel
theorem d_m_spread_112 : decode M_m_spread.2.1 112 = .ok (.iload 4, 2) := by decide +kernel
theorem d_m_spread_114 : decode M_m_spread.2.1 114 = .ok (.imul, 1) := by decide +kernel
theorem d_m_spread_115 : decode M_m_spread.2.1 115 = .ok (.aload_n 0, 1) := by decide +kernel
theorem d_m_spread_116 : decode M_m_spread.2.1 116 = .ok (.getfield 137, 3) := by decide +kernel
theorem d_m_spread_119 : decode M_m_spread.2.1 119 = .ok (.iconst 1, 1) := by decide +kernel
theorem d_m_spread_120 : decode M_m_spread.2.1 120 = .ok (.isub, 1) := by decide +kernel
theorem d_m_spread_121 : decode M_m_spread.2.1 121 = .ok (.idiv, 1) := by decide +kernel
theorem d_m_spread_122 : decode M_m_spread.2.1 122 = .ok (.iadd, 1) := by decide +kernel
theorem d_m_spread_123 : decode M_m_spread.2.1 123 = .ok (.iastore, 1) := by decide +kernel
theorem d_m_spread_124 : decode M_m_spread.2.1 124 = .ok (.iinc 4 1, 3) := by decide +kernel
theorem d_m_spread_127 : decode M_m_spread.2.1 127 = .ok (.goto (-53), 3) := by decide +kernel
theorem d_m_spread_130 : decode M_m_spread.2.1 130 = .ok (.return_, 1) := by decide +kernel
theorem d_m_loss_0 : decode M_m_loss.2.1 0 = .ok (.iconst 0, 1) := by decide +kernel
theorem d_m_loss_1 : decode M_m_loss.2.1 1 = .ok (.istore_n 1, 1) := by decide +kernel
theorem d_m_loss_2 : decode M_m_loss.2.1 2 = .ok (.iconst 0, 1) := by decide +kernel
theorem d_m_loss_3 : decode M_m_loss.2.1 3 = .ok (.istore_n 2, 1) := by decide +kernel
theorem d_m_loss_4 : decode M_m_loss.2.1 4 = .ok (.iload_n 2, 1) := by decide +kernel
theorem d_m_loss_5 : decode M_m_loss.2.1 5 = .ok (.aload_n 0, 1) := by decide +kernel
theorem d_m_loss_6 : decode M_m_loss.2.1 6 = .ok (.getfield 103, 3) := by decide +kernel
theorem d_m_loss_9 : decode M_m_loss.2.1 9 = .ok (.if_icmp .ge 71, 3) := by decide +kernel
theorem d_m_loss_12 : decode M_m_loss.2.1 12 = .ok (.iconst 0, 1) := by decide +kernel
theorem d_m_loss_13 : decode M_m_loss.2.1 13 = .ok (.istore_n 3, 1) := by decide +kernel
theorem d_m_loss_14 : decode M_m_loss.2.1 14 = .ok (.iload_n 3, 1) := by decide +kernel
theorem d_m_loss_15 : decode M_m_loss.2.1 15 = .ok (.iconst 4, 1) := by decide +kernel
theorem d_m_loss_16 : decode M_m_loss.2.1 16 = .ok (.if_icmp .ge 25, 3) := by decide +kernel
theorem d_m_loss_19 : decode M_m_loss.2.1 19 = .ok (.aload_n 0, 1) := by decide +kernel
theorem d_m_loss_20 : decode M_m_loss.2.1 20 = .ok (.getfield 44, 3) := by decide +kernel
theorem d_m_loss_23 : decode M_m_loss.2.1 23 = .ok (.iload_n 3, 1) := by decide +kernel
theorem d_m_loss_24 : decode M_m_loss.2.1 24 = .ok (.aload_n 0, 1) := by decide +kernel
theorem d_m_loss_25 : decode M_m_loss.2.1 25 = .ok (.getfield 53, 3) := by decide +kernel
theorem d_m_loss_28 : decode M_m_loss.2.1 28 = .ok (.iconst 4, 1) := by decide +kernel
theorem d_m_loss_29 : decode M_m_loss.2.1 29 = .ok (.iload_n 2, 1) := by decide +kernel
theorem d_m_loss_30 : decode M_m_loss.2.1 30 = .ok (.imul, 1) := by decide +kernel
theorem d_m_loss_31 : decode M_m_loss.2.1 31 = .ok (.iload_n 3, 1) := by decide +kernel
theorem d_m_loss_32 : decode M_m_loss.2.1 32 = .ok (.iadd, 1) := by decide +kernel
theorem d_m_loss_33 : decode M_m_loss.2.1 33 = .ok (.iaload, 1) := by decide +kernel
theorem d_m_loss_34 : decode M_m_loss.2.1 34 = .ok (.iastore, 1) := by decide +kernel
theorem d_m_loss_35 : decode M_m_loss.2.1 35 = .ok (.iinc 3 1, 3) := by decide +kernel
theorem d_m_loss_38 : decode M_m_loss.2.1 38 = .ok (.goto (-24), 3) := by decide +kernel
theorem d_m_loss_41 : decode M_m_loss.2.1 41 = .ok (.iconst 0, 1) := by decide +kernel
theorem d_m_loss_42 : decode M_m_loss.2.1 42 = .ok (.istore_n 3, 1) := by decide +kernel
theorem d_m_loss_43 : decode M_m_loss.2.1 43 = .ok (.iload_n 3, 1) := by decide +kernel
theorem d_m_loss_44 : decode M_m_loss.2.1 44 = .ok (.aload_n 0, 1) := by decide +kernel
theorem d_m_loss_45 : decode M_m_loss.2.1 45 = .ok (.invokevirtual 144, 3) := by decide +kernel
theorem d_m_loss_48 : decode M_m_loss.2.1 48 = .ok (.if_icmp .ge 26, 3) := by decide +kernel
theorem d_m_loss_51 : decode M_m_loss.2.1 51 = .ok (.aload_n 0, 1) := by decide +kernel
theorem d_m_loss_52 : decode M_m_loss.2.1 52 = .ok (.iload_n 3, 1) := by decide +kernel
theorem d_m_loss_53 : decode M_m_loss.2.1 53 = .ok (.invokevirtual 158, 3) := by decide +kernel
theorem d_m_loss_56 : decode M_m_loss.2.1 56 = .ok (.istore 4, 2) := by decide +kernel
theorem d_m_loss_58 : decode M_m_loss.2.1 58 = .ok (.iload_n 1, 1) := by decide +kernel
theorem d_m_loss_59 : decode M_m_loss.2.1 59 = .ok (.aload_n 0, 1) := by decide +kernel
theorem d_m_loss_60 : decode M_m_loss.2.1 60 = .ok (.iload_n 3, 1) := by decide +kernel
theorem d_m_loss_61 : decode M_m_loss.2.1 61 = .ok (.iload 4, 2) := by decide +kernel
theorem d_m_loss_63 : decode M_m_loss.2.1 63 = .ok (.invokevirtual 161, 3) := by decide +kernel
theorem d_m_loss_66 : decode M_m_loss.2.1 66 = .ok (.iadd, 1) := by decide +kernel
theorem d_m_loss_67 : decode M_m_loss.2.1 67 = .ok (.istore_n 1, 1) := by decide +kernel
theorem d_m_loss_68 : decode M_m_loss.2.1 68 = .ok (.iinc 3 1, 3) := by decide +kernel
theorem d_m_loss_71 : decode M_m_loss.2.1 71 = .ok (.goto (-28), 3) := by decide +kernel
theorem d_m_loss_74 : decode M_m_loss.2.1 74 = .ok (.iinc 2 1, 3) := by decide +kernel
theorem d_m_loss_77 : decode M_m_loss.2.1 77 = .ok (.goto (-73), 3) := by decide +kernel
theorem d_m_loss_80 : decode M_m_loss.2.1 80 = .ok (.iload_n 1, 1) := by decide +kernel
theorem d_m_loss_81 : decode M_m_loss.2.1 81 = .ok (.ireturn, 1) := by decide +kernel
theorem d_m_nearestWord_0 : decode M_m_nearestWord.2.1 0 = .ok (.iconst 0, 1) := by decide +kernel
theorem d_m_nearestWord_1 : decode M_m_nearestWord.2.1 1 = .ok (.istore_n 2, 1) := by decide +kernel
theorem d_m_nearestWord_2 : decode M_m_nearestWord.2.1 2 = .ok (.iconst 1, 1) := by decide +kernel
theorem d_m_nearestWord_3 : decode M_m_nearestWord.2.1 3 = .ok (.istore_n 3, 1) := by decide +kernel
theorem d_m_nearestWord_4 : decode M_m_nearestWord.2.1 4 = .ok (.iload_n 3, 1) := by decide +kernel
theorem d_m_nearestWord_5 : decode M_m_nearestWord.2.1 5 = .ok (.aload_n 0, 1) := by decide +kernel
theorem d_m_nearestWord_6 : decode M_m_nearestWord.2.1 6 = .ok (.getfield 137, 3) := by decide +kernel
theorem d_m_nearestWord_9 : decode M_m_nearestWord.2.1 9 = .ok (.if_icmp .ge 30, 3) := by decide +kernel
theorem d_m_nearestWord_12 : decode M_m_nearestWord.2.1 12 = .ok (.aload_n 0, 1) := by decide +kernel
theorem d_m_nearestWord_13 : decode M_m_nearestWord.2.1 13 = .ok (.iload_n 1, 1) := by decide +kernel
theorem d_m_nearestWord_14 : decode M_m_nearestWord.2.1 14 = .ok (.iload_n 3, 1) := by decide +kernel
theorem d_m_nearestWord_15 : decode M_m_nearestWord.2.1 15 = .ok (.invokevirtual 161, 3) := by decide +kernel
theorem d_m_nearestWord_18 : decode M_m_nearestWord.2.1 18 = .ok (.istore 4, 2) := by decide +kernel
theorem d_m_nearestWord_20 : decode M_m_nearestWord.2.1 20 = .ok (.iload 4, 2) := by decide +kernel
theorem d_m_nearestWord_22 : decode M_m_nearestWord.2.1 22 = .ok (.aload_n 0, 1) := by decide +kernel
theorem d_m_nearestWord_23 : decode M_m_nearestWord.2.1 23 = .ok (.iload_n 1, 1) := by decide +kernel
theorem d_m_nearestWord_24 : decode M_m_nearestWord.2.1 24 = .ok (.iload_n 2, 1) := by decide +kernel
theorem d_m_nearestWord_25 : decode M_m_nearestWord.2.1 25 = .ok (.invokevirtual 161, 3) := by decide +kernel
theorem d_m_nearestWord_28 : decode M_m_nearestWord.2.1 28 = .ok (.if_icmp .ge 5, 3) := by decide +kernel
theorem d_m_nearestWord_31 : decode M_m_nearestWord.2.1 31 = .ok (.iload_n 3, 1) := by decide +kernel
theorem d_m_nearestWord_32 : decode M_m_nearestWord.2.1 32 = .ok (.istore_n 2, 1) := by decide +kernel
theorem d_m_nearestWord_33 : decode M_m_nearestWord.2.1 33 = .ok (.iinc 3 1, 3) := by decide +kernel
theorem d_m_nearestWord_36 : decode M_m_nearestWord.2.1 36 = .ok (.goto (-32), 3) := by decide +kernel
theorem d_m_nearestWord_39 : decode M_m_nearestWord.2.1 39 = .ok (.iload_n 2, 1) := by decide +kernel
theorem d_m_nearestWord_40 : decode M_m_nearestWord.2.1 40 = .ok (.ireturn, 1) := by decide +kernel
theorem d_m_wordGap_0 : decode M_m_wordGap.2.1 0 = .ok (.iconst 0, 1) := by decide +kernel
theorem d_m_wordGap_1 : decode M_m_wordGap.2.1 1 = .ok (.istore_n 3, 1) := by decide +kernel
theorem d_m_wordGap_2 : decode M_m_wordGap.2.1 2 = .ok (.iconst 0, 1) := by decide +kernel
theorem d_m_wordGap_3 : decode M_m_wordGap.2.1 3 = .ok (.istore 4, 2) := by decide +kernel
theorem d_m_wordGap_5 : decode M_m_wordGap.2.1 5 = .ok (.iload 4, 2) := by decide +kernel
theorem d_m_wordGap_7 : decode M_m_wordGap.2.1 7 = .ok (.aload_n 0, 1) := by decide +kernel
theorem d_m_wordGap_8 : decode M_m_wordGap.2.1 8 = .ok (.invokevirtual 164, 3) := by decide +kernel
theorem d_m_wordGap_11 : decode M_m_wordGap.2.1 11 = .ok (.if_icmp .ge 50, 3) := by decide +kernel
theorem d_m_wordGap_14 : decode M_m_wordGap.2.1 14 = .ok (.aload_n 0, 1) := by decide +kernel
theorem d_m_wordGap_15 : decode M_m_wordGap.2.1 15 = .ok (.getfield 44, 3) := by decide +kernel
theorem d_m_wordGap_18 : decode M_m_wordGap.2.1 18 = .ok (.iload_n 1, 1) := by decide +kernel
theorem d_m_wordGap_19 : decode M_m_wordGap.2.1 19 = .ok (.aload_n 0, 1) := by decide +kernel
theorem d_m_wordGap_20 : decode M_m_wordGap.2.1 20 = .ok (.invokevirtual 164, 3) := by decide +kernel
theorem d_m_wordGap_23 : decode M_m_wordGap.2.1 23 = .ok (.imul, 1) := by decide +kernel
theorem d_m_wordGap_24 : decode M_m_wordGap.2.1 24 = .ok (.iload 4, 2) := by decide +kernel
theorem d_m_wordGap_26 : decode M_m_wordGap.2.1 26 = .ok (.iadd, 1) := by decide +kernel
theorem d_m_wordGap_27 : decode M_m_wordGap.2.1 27 = .ok (.iaload, 1) := by decide +kernel
theorem d_m_wordGap_28 : decode M_m_wordGap.2.1 28 = .ok (.aload_n 0, 1) := by decide +kernel
theorem d_m_wordGap_29 : decode M_m_wordGap.2.1 29 = .ok (.getfield 19, 3) := by decide +kernel
theorem d_m_wordGap_32 : decode M_m_wordGap.2.1 32 = .ok (.bipush 8, 2) := by decide +kernel
theorem d_m_wordGap_34 : decode M_m_wordGap.2.1 34 = .ok (.iload_n 1, 1) := by decide +kernel
theorem d_m_wordGap_35 : decode M_m_wordGap.2.1 35 = .ok (.imul, 1) := by decide +kernel
theorem d_m_wordGap_36 : decode M_m_wordGap.2.1 36 = .ok (.iconst 2, 1) := by decide +kernel
theorem d_m_wordGap_37 : decode M_m_wordGap.2.1 37 = .ok (.iload_n 2, 1) := by decide +kernel
theorem d_m_wordGap_38 : decode M_m_wordGap.2.1 38 = .ok (.imul, 1) := by decide +kernel
theorem d_m_wordGap_39 : decode M_m_wordGap.2.1 39 = .ok (.iadd, 1) := by decide +kernel
theorem d_m_wordGap_40 : decode M_m_wordGap.2.1 40 = .ok (.iload 4, 2) := by decide +kernel
theorem d_m_wordGap_42 : decode M_m_wordGap.2.1 42 = .ok (.iadd, 1) := by decide +kernel
theorem d_m_wordGap_43 : decode M_m_wordGap.2.1 43 = .ok (.iaload, 1) := by decide +kernel
theorem d_m_wordGap_44 : decode M_m_wordGap.2.1 44 = .ok (.isub, 1) := by decide +kernel
theorem d_m_wordGap_45 : decode M_m_wordGap.2.1 45 = .ok (.istore 5, 2) := by decide +kernel
theorem d_m_wordGap_47 : decode M_m_wordGap.2.1 47 = .ok (.iload_n 3, 1) := by decide +kernel
theorem d_m_wordGap_48 : decode M_m_wordGap.2.1 48 = .ok (.iload 5, 2) := by decide +kernel
theorem d_m_wordGap_50 : decode M_m_wordGap.2.1 50 = .ok (.iload 5, 2) := by decide +kernel
theorem d_m_wordGap_52 : decode M_m_wordGap.2.1 52 = .ok (.imul, 1) := by decide +kernel
theorem d_m_wordGap_53 : decode M_m_wordGap.2.1 53 = .ok (.iadd, 1) := by decide +kernel
theorem d_m_wordGap_54 : decode M_m_wordGap.2.1 54 = .ok (.istore_n 3, 1) := by decide +kernel
theorem d_m_wordGap_55 : decode M_m_wordGap.2.1 55 = .ok (.iinc 4 1, 3) := by decide +kernel
theorem d_m_wordGap_58 : decode M_m_wordGap.2.1 58 = .ok (.goto (-53), 3) := by decide +kernel
theorem d_m_wordGap_61 : decode M_m_wordGap.2.1 61 = .ok (.iload_n 3, 1) := by decide +kernel
theorem d_m_wordGap_62 : decode M_m_wordGap.2.1 62 = .ok (.ireturn, 1) := by decide +kernel
theorem d_m_size_0 : decode M_m_size.2.1 0 = .ok (.aload_n 0, 1) := by decide +kernel
theorem d_m_size_1 : decode M_m_size.2.1 1 = .ok (.getfield 128, 3) := by decide +kernel
theorem d_m_size_4 : decode M_m_size.2.1 4 = .ok (.ifCond .ne 7, 3) := by decide +kernel
theorem d_m_size_7 : decode M_m_size.2.1 7 = .ok (.iconst 2, 1) := by decide +kernel
theorem d_m_size_8 : decode M_m_size.2.1 8 = .ok (.goto 4, 3) := by decide +kernel
theorem d_m_size_11 : decode M_m_size.2.1 11 = .ok (.iconst 1, 1) := by decide +kernel
theorem d_m_size_12 : decode M_m_size.2.1 12 = .ok (.ireturn, 1) := by decide +kernel
theorem d_m_centre_0 : decode M_m_centre.2.1 0 = .ok (.aload_n 0, 1) := by decide +kernel
theorem d_m_centre_1 : decode M_m_centre.2.1 1 = .ok (.getfield 92, 3) := by decide +kernel
theorem d_m_centre_4 : decode M_m_centre.2.1 4 = .ok (.ifCond .eq 39, 3) := by decide +kernel
theorem d_m_centre_7 : decode M_m_centre.2.1 7 = .ok (.iload_n 1, 1) := by decide +kernel
theorem d_m_centre_8 : decode M_m_centre.2.1 8 = .ok (.iconst 0, 1) := by decide +kernel
theorem d_m_centre_9 : decode M_m_centre.2.1 9 = .ok (.aload_n 0, 1) := by decide +kernel
theorem d_m_centre_10 : decode M_m_centre.2.1 10 = .ok (.getfield 134, 3) := by decide +kernel
theorem d_m_centre_13 : decode M_m_centre.2.1 13 = .ok (.iconst 1, 1) := by decide +kernel
theorem d_m_centre_14 : decode M_m_centre.2.1 14 = .ok (.isub, 1) := by decide +kernel
theorem d_m_centre_15 : decode M_m_centre.2.1 15 = .ok (.invokestatic 85, 3) := by decide +kernel
theorem d_m_centre_18 : decode M_m_centre.2.1 18 = .ok (.ifCond .eq 25, 3) := by decide +kernel
theorem d_m_centre_21 : decode M_m_centre.2.1 21 = .ok (.iload_n 2, 1) := by decide +kernel
theorem d_m_centre_22 : decode M_m_centre.2.1 22 = .ok (.iconst 0, 1) := by decide +kernel
theorem d_m_centre_23 : decode M_m_centre.2.1 23 = .ok (.iconst 3, 1) := by decide +kernel
theorem d_m_centre_24 : decode M_m_centre.2.1 24 = .ok (.invokestatic 85, 3) := by decide +kernel
theorem d_m_centre_27 : decode M_m_centre.2.1 27 = .ok (.ifCond .eq 16, 3) := by decide +kernel
theorem d_m_centre_30 : decode M_m_centre.2.1 30 = .ok (.aload_n 0, 1) := by decide +kernel
theorem d_m_centre_31 : decode M_m_centre.2.1 31 = .ok (.getfield 16, 3) := by decide +kernel
theorem d_m_centre_34 : decode M_m_centre.2.1 34 = .ok (.iconst 4, 1) := by decide +kernel
theorem d_m_centre_35 : decode M_m_centre.2.1 35 = .ok (.iload_n 1, 1) := by decide +kernel
theorem d_m_centre_36 : decode M_m_centre.2.1 36 = .ok (.imul, 1) := by decide +kernel
theorem d_m_centre_37 : decode M_m_centre.2.1 37 = .ok (.iload_n 2, 1) := by decide +kernel
theorem d_m_centre_38 : decode M_m_centre.2.1 38 = .ok (.iadd, 1) := by decide +kernel
theorem d_m_centre_39 : decode M_m_centre.2.1 39 = .ok (.iaload, 1) := by decide +kernel
theorem d_m_centre_40 : decode M_m_centre.2.1 40 = .ok (.goto 6, 3) := by decide +kernel
theorem d_m_centre_43 : decode M_m_centre.2.1 43 = .ok (.sipush (-1000), 3) := by decide +kernel
theorem d_m_centre_46 : decode M_m_centre.2.1 46 = .ok (.ireturn, 1) := by decide +kernel
theorem d_m_word_0 : decode M_m_word.2.1 0 = .ok (.aload_n 0, 1) := by decide +kernel
theorem d_m_word_1 : decode M_m_word.2.1 1 = .ok (.getfield 92, 3) := by decide +kernel
theorem d_m_word_4 : decode M_m_word.2.1 4 = .ok (.ifCond .eq 49, 3) := by decide +kernel
theorem d_m_word_7 : decode M_m_word.2.1 7 = .ok (.iload_n 1, 1) := by decide +kernel
theorem d_m_word_8 : decode M_m_word.2.1 8 = .ok (.iconst 0, 1) := by decide +kernel
theorem d_m_word_9 : decode M_m_word.2.1 9 = .ok (.aload_n 0, 1) := by decide +kernel
theorem d_m_word_10 : decode M_m_word.2.1 10 = .ok (.invokevirtual 144, 3) := by decide +kernel
theorem d_m_word_13 : decode M_m_word.2.1 13 = .ok (.iconst 1, 1) := by decide +kernel
theorem d_m_word_14 : decode M_m_word.2.1 14 = .ok (.isub, 1) := by decide +kernel
theorem d_m_word_15 : decode M_m_word.2.1 15 = .ok (.invokestatic 85, 3) := by decide +kernel
theorem d_m_word_18 : decode M_m_word.2.1 18 = .ok (.ifCond .eq 35, 3) := by decide +kernel
theorem d_m_word_21 : decode M_m_word.2.1 21 = .ok (.iload_n 2, 1) := by decide +kernel
theorem d_m_word_22 : decode M_m_word.2.1 22 = .ok (.iconst 0, 1) := by decide +kernel
theorem d_m_word_23 : decode M_m_word.2.1 23 = .ok (.aload_n 0, 1) := by decide +kernel
theorem d_m_word_24 : decode M_m_word.2.1 24 = .ok (.getfield 137, 3) := by decide +kernel
theorem d_m_word_27 : decode M_m_word.2.1 27 = .ok (.iconst 1, 1) := by decide +kernel
theorem d_m_word_28 : decode M_m_word.2.1 28 = .ok (.isub, 1) := by decide +kernel
theorem d_m_word_29 : decode M_m_word.2.1 29 = .ok (.invokestatic 85, 3) := by decide +kernel
theorem d_m_word_32 : decode M_m_word.2.1 32 = .ok (.ifCond .eq 21, 3) := by decide +kernel
theorem d_m_word_35 : decode M_m_word.2.1 35 = .ok (.iload_n 3, 1) := by decide +kernel
theorem d_m_word_36 : decode M_m_word.2.1 36 = .ok (.iconst 0, 1) := by decide +kernel
theorem d_m_word_37 : decode M_m_word.2.1 37 = .ok (.aload_n 0, 1) := by decide +kernel
theorem d_m_word_38 : decode M_m_word.2.1 38 = .ok (.invokevirtual 164, 3) := by decide +kernel
theorem d_m_word_41 : decode M_m_word.2.1 41 = .ok (.iconst 1, 1) := by decide +kernel
theorem d_m_word_42 : decode M_m_word.2.1 42 = .ok (.isub, 1) := by decide +kernel
theorem d_m_word_43 : decode M_m_word.2.1 43 = .ok (.invokestatic 85, 3) := by decide +kernel
theorem d_m_word_46 : decode M_m_word.2.1 46 = .ok (.ifCond .eq 7, 3) := by decide +kernel
theorem d_m_word_49 : decode M_m_word.2.1 49 = .ok (.iconst 1, 1) := by decide +kernel
theorem d_m_word_50 : decode M_m_word.2.1 50 = .ok (.goto 4, 3) := by decide +kernel
theorem d_m_word_53 : decode M_m_word.2.1 53 = .ok (.iconst 0, 1) := by decide +kernel
theorem d_m_word_54 : decode M_m_word.2.1 54 = .ok (.istore 4, 2) := by decide +kernel
theorem d_m_word_56 : decode M_m_word.2.1 56 = .ok (.iload 4, 2) := by decide +kernel
theorem d_m_word_58 : decode M_m_word.2.1 58 = .ok (.ifCond .eq 21, 3) := by decide +kernel
theorem d_m_word_61 : decode M_m_word.2.1 61 = .ok (.aload_n 0, 1) := by decide +kernel
theorem d_m_word_62 : decode M_m_word.2.1 62 = .ok (.getfield 19, 3) := by decide +kernel
theorem d_m_word_65 : decode M_m_word.2.1 65 = .ok (.bipush 8, 2) := by decide +kernel
theorem d_m_word_67 : decode M_m_word.2.1 67 = .ok (.iload_n 1, 1) := by decide +kernel
theorem d_m_word_68 : decode M_m_word.2.1 68 = .ok (.imul, 1) := by decide +kernel
theorem d_m_word_69 : decode M_m_word.2.1 69 = .ok (.iconst 2, 1) := by decide +kernel
theorem d_m_word_70 : decode M_m_word.2.1 70 = .ok (.iload_n 2, 1) := by decide +kernel
theorem d_m_word_71 : decode M_m_word.2.1 71 = .ok (.imul, 1) := by decide +kernel
theorem d_m_word_72 : decode M_m_word.2.1 72 = .ok (.iadd, 1) := by decide +kernel
theorem d_m_word_73 : decode M_m_word.2.1 73 = .ok (.iload_n 3, 1) := by decide +kernel
theorem d_m_word_74 : decode M_m_word.2.1 74 = .ok (.iadd, 1) := by decide +kernel
theorem d_m_word_75 : decode M_m_word.2.1 75 = .ok (.iaload, 1) := by decide +kernel
theorem d_m_word_76 : decode M_m_word.2.1 76 = .ok (.goto 6, 3) := by decide +kernel
theorem d_m_word_79 : decode M_m_word.2.1 79 = .ok (.sipush (-1000), 3) := by decide +kernel
theorem d_m_word_82 : decode M_m_word.2.1 82 = .ok (.ireturn, 1) := by decide +kernel
theorem d_m_add_0 : decode M_m_add.2.1 0 = .ok (.aload_n 0, 1) := by decide +kernel
theorem d_m_add_1 : decode M_m_add.2.1 1 = .ok (.iload_n 2, 1) := by decide +kernel
theorem d_m_add_2 : decode M_m_add.2.1 2 = .ok (.iload_n 3, 1) := by decide +kernel
theorem d_m_add_3 : decode M_m_add.2.1 3 = .ok (.iload 4, 2) := by decide +kernel
theorem d_m_add_5 : decode M_m_add.2.1 5 = .ok (.iload 5, 2) := by decide +kernel
theorem d_m_add_7 : decode M_m_add.2.1 7 = .ok (.invokevirtual 100, 3) := by decide +kernel
theorem d_m_add_10 : decode M_m_add.2.1 10 = .ok (.istore 6, 2) := by decide +kernel
theorem d_m_add_12 : decode M_m_add.2.1 12 = .ok (.aload_n 0, 1) := by decide +kernel
theorem d_m_add_13 : decode M_m_add.2.1 13 = .ok (.getfield 92, 3) := by decide +kernel
theorem d_m_add_16 : decode M_m_add.2.1 16 = .ok (.ifCond .ne 7, 3) := by decide +kernel
theorem d_m_add_19 : decode M_m_add.2.1 19 = .ok (.iconst (-1), 1) := by decide +kernel
theorem d_m_add_20 : decode M_m_add.2.1 20 = .ok (.goto 58, 3) := by decide +kernel
theorem d_m_add_23 : decode M_m_add.2.1 23 = .ok (.iload_n 1, 1) := by decide +kernel
theorem d_m_add_24 : decode M_m_add.2.1 24 = .ok (.iconst 0, 1) := by decide +kernel
theorem d_m_add_25 : decode M_m_add.2.1 25 = .ok (.sipush 999, 3) := by decide +kernel
theorem d_m_add_28 : decode M_m_add.2.1 28 = .ok (.invokestatic 85, 3) := by decide +kernel
theorem d_m_add_31 : decode M_m_add.2.1 31 = .ok (.ifCond .ne 8, 3) := by decide +kernel
theorem d_m_add_34 : decode M_m_add.2.1 34 = .ok (.bipush (-2), 2) := by decide +kernel
theorem d_m_add_36 : decode M_m_add.2.1 36 = .ok (.goto 42, 3) := by decide +kernel
theorem d_m_add_39 : decode M_m_add.2.1 39 = .ok (.iload 6, 2) := by decide +kernel
theorem d_m_add_41 : decode M_m_add.2.1 41 = .ok (.ifCond .ne 8, 3) := by decide +kernel
theorem d_m_add_44 : decode M_m_add.2.1 44 = .ok (.bipush (-3), 2) := by decide +kernel
theorem d_m_add_46 : decode M_m_add.2.1 46 = .ok (.goto 32, 3) := by decide +kernel
theorem d_m_add_49 : decode M_m_add.2.1 49 = .ok (.aload_n 0, 1) := by decide +kernel
theorem d_m_add_50 : decode M_m_add.2.1 50 = .ok (.getfield 22, 3) := by decide +kernel
theorem d_m_add_53 : decode M_m_add.2.1 53 = .ok (.iload_n 1, 1) := by decide +kernel
theorem d_m_add_54 : decode M_m_add.2.1 54 = .ok (.baload, 1) := by decide +kernel
theorem d_m_add_55 : decode M_m_add.2.1 55 = .ok (.ifCond .eq 8, 3) := by decide +kernel
theorem d_m_add_58 : decode M_m_add.2.1 58 = .ok (.bipush (-4), 2) := by decide +kernel
theorem d_m_add_60 : decode M_m_add.2.1 60 = .ok (.goto 18, 3) := by decide +kernel
theorem d_m_add_63 : decode M_m_add.2.1 63 = .ok (.aload_n 0, 1) := by decide +kernel
theorem d_m_add_64 : decode M_m_add.2.1 64 = .ok (.getfield 131, 3) := by decide +kernel
theorem d_m_add_67 : decode M_m_add.2.1 67 = .ok (.bipush 20, 2) := by decide +kernel
theorem d_m_add_69 : decode M_m_add.2.1 69 = .ok (.if_icmp .ne 8, 3) := by decide +kernel
theorem d_m_add_72 : decode M_m_add.2.1 72 = .ok (.bipush (-5), 2) := by decide +kernel
theorem d_m_add_74 : decode M_m_add.2.1 74 = .ok (.goto 4, 3) := by decide +kernel
theorem d_m_add_77 : decode M_m_add.2.1 77 = .ok (.iconst 0, 1) := by decide +kernel
theorem d_m_add_78 : decode M_m_add.2.1 78 = .ok (.istore 7, 2) := by decide +kernel
theorem d_m_add_80 : decode M_m_add.2.1 80 = .ok (.iload 7, 2) := by decide +kernel
theorem d_m_add_82 : decode M_m_add.2.1 82 = .ok (.ifCond .ge 6, 3) := by decide +kernel
theorem d_m_add_85 : decode M_m_add.2.1 85 = .ok (.iload 7, 2) := by decide +kernel
theorem d_m_add_87 : decode M_m_add.2.1 87 = .ok (.ireturn, 1) := by decide +kernel
theorem d_m_add_88 : decode M_m_add.2.1 88 = .ok (.aload_n 0, 1) := by decide +kernel
theorem d_m_add_89 : decode M_m_add.2.1 89 = .ok (.getfield 22, 3) := by decide +kernel
theorem d_m_add_92 : decode M_m_add.2.1 92 = .ok (.iload_n 1, 1) := by decide +kernel
theorem d_m_add_93 : decode M_m_add.2.1 93 = .ok (.iconst 1, 1) := by decide +kernel
theorem d_m_add_94 : decode M_m_add.2.1 94 = .ok (.bastore, 1) := by decide +kernel
theorem d_m_add_95 : decode M_m_add.2.1 95 = .ok (.aload_n 0, 1) := by decide +kernel
theorem d_m_add_96 : decode M_m_add.2.1 96 = .ok (.dup, 1) := by decide +kernel
theorem d_m_add_97 : decode M_m_add.2.1 97 = .ok (.getfield 131, 3) := by decide +kernel
theorem d_m_add_100 : decode M_m_add.2.1 100 = .ok (.iconst 1, 1) := by decide +kernel
theorem d_m_add_101 : decode M_m_add.2.1 101 = .ok (.iadd, 1) := by decide +kernel
theorem d_m_add_102 : decode M_m_add.2.1 102 = .ok (.putfield 131, 3) := by decide +kernel
theorem d_m_add_105 : decode M_m_add.2.1 105 = .ok (.iconst 0, 1) := by decide +kernel
theorem d_m_add_106 : decode M_m_add.2.1 106 = .ok (.istore 8, 2) := by decide +kernel
theorem d_m_add_108 : decode M_m_add.2.1 108 = .ok (.iload 8, 2) := by decide +kernel
theorem d_m_add_110 : decode M_m_add.2.1 110 = .ok (.iconst 4, 1) := by decide +kernel
theorem d_m_add_111 : decode M_m_add.2.1 111 = .ok (.if_icmp .ge 27, 3) := by decide +kernel
theorem d_m_add_114 : decode M_m_add.2.1 114 = .ok (.aload_n 0, 1) := by decide +kernel
theorem d_m_add_115 : decode M_m_add.2.1 115 = .ok (.getfield 26, 3) := by decide +kernel
theorem d_m_add_118 : decode M_m_add.2.1 118 = .ok (.iconst 4, 1) := by decide +kernel
theorem d_m_add_119 : decode M_m_add.2.1 119 = .ok (.iload_n 1, 1) := by decide +kernel
theorem d_m_add_120 : decode M_m_add.2.1 120 = .ok (.imul, 1) := by decide +kernel
theorem d_m_add_121 : decode M_m_add.2.1 121 = .ok (.iload 8, 2) := by decide +kernel
theorem d_m_add_123 : decode M_m_add.2.1 123 = .ok (.iadd, 1) := by decide +kernel
theorem d_m_add_124 : decode M_m_add.2.1 124 = .ok (.aload_n 0, 1) := by decide +kernel
theorem d_m_add_125 : decode M_m_add.2.1 125 = .ok (.getfield 38, 3) := by decide +kernel
theorem d_m_add_128 : decode M_m_add.2.1 128 = .ok (.iload 8, 2) := by decide +kernel
theorem d_m_add_130 : decode M_m_add.2.1 130 = .ok (.iaload, 1) := by decide +kernel
theorem d_m_add_131 : decode M_m_add.2.1 131 = .ok (.iastore, 1) := by decide +kernel
theorem d_m_add_132 : decode M_m_add.2.1 132 = .ok (.iinc 8 1, 3) := by decide +kernel
theorem d_m_add_135 : decode M_m_add.2.1 135 = .ok (.goto (-27), 3) := by decide +kernel
theorem d_m_add_138 : decode M_m_add.2.1 138 = .ok (.aload_n 0, 1) := by decide +kernel
theorem d_m_add_139 : decode M_m_add.2.1 139 = .ok (.invokevirtual 89, 3) := by decide +kernel
theorem d_m_add_142 : decode M_m_add.2.1 142 = .ok (.aload_n 0, 1) := by decide +kernel
theorem d_m_add_143 : decode M_m_add.2.1 143 = .ok (.invokevirtual 170, 3) := by decide +kernel
theorem d_m_add_146 : decode M_m_add.2.1 146 = .ok (.ireturn, 1) := by decide +kernel
theorem d_m_listNow_0 : decode M_m_listNow.2.1 0 = .ok (.iconst 0, 1) := by decide +kernel
theorem d_m_listNow_1 : decode M_m_listNow.2.1 1 = .ok (.istore_n 1, 1) := by decide +kernel
theorem d_m_listNow_2 : decode M_m_listNow.2.1 2 = .ok (.iconst 1, 1) := by decide +kernel
theorem d_m_listNow_3 : decode M_m_listNow.2.1 3 = .ok (.istore_n 2, 1) := by decide +kernel
theorem d_m_listNow_4 : decode M_m_listNow.2.1 4 = .ok (.iload_n 2, 1) := by decide +kernel
theorem d_m_listNow_5 : decode M_m_listNow.2.1 5 = .ok (.aload_n 0, 1) := by decide +kernel
theorem d_m_listNow_6 : decode M_m_listNow.2.1 6 = .ok (.getfield 134, 3) := by decide +kernel
theorem d_m_listNow_9 : decode M_m_listNow.2.1 9 = .ok (.if_icmp .ge 26, 3) := by decide +kernel
theorem d_m_listNow_12 : decode M_m_listNow.2.1 12 = .ok (.aload_n 0, 1) := by decide +kernel
theorem d_m_listNow_13 : decode M_m_listNow.2.1 13 = .ok (.iload_n 2, 1) := by decide +kernel
theorem d_m_listNow_14 : decode M_m_listNow.2.1 14 = .ok (.invokevirtual 167, 3) := by decide +kernel
theorem d_m_listNow_17 : decode M_m_listNow.2.1 17 = .ok (.istore_n 3, 1) := by decide +kernel
theorem d_m_listNow_18 : decode M_m_listNow.2.1 18 = .ok (.iload_n 3, 1) := by decide +kernel
theorem d_m_listNow_19 : decode M_m_listNow.2.1 19 = .ok (.aload_n 0, 1) := by decide +kernel
theorem d_m_listNow_20 : decode M_m_listNow.2.1 20 = .ok (.iload_n 1, 1) := by decide +kernel
theorem d_m_listNow_21 : decode M_m_listNow.2.1 21 = .ok (.invokevirtual 167, 3) := by decide +kernel
theorem d_m_listNow_24 : decode M_m_listNow.2.1 24 = .ok (.if_icmp .ge 5, 3) := by decide +kernel
theorem d_m_listNow_27 : decode M_m_listNow.2.1 27 = .ok (.iload_n 2, 1) := by decide +kernel
theorem d_m_listNow_28 : decode M_m_listNow.2.1 28 = .ok (.istore_n 1, 1) := by decide +kernel
theorem d_m_listNow_29 : decode M_m_listNow.2.1 29 = .ok (.iinc 2 1, 3) := by decide +kernel
theorem d_m_listNow_32 : decode M_m_listNow.2.1 32 = .ok (.goto (-28), 3) := by decide +kernel
theorem d_m_listNow_35 : decode M_m_listNow.2.1 35 = .ok (.iload_n 1, 1) := by decide +kernel
theorem d_m_listNow_36 : decode M_m_listNow.2.1 36 = .ok (.ireturn, 1) := by decide +kernel
theorem d_m_away_0 : decode M_m_away.2.1 0 = .ok (.iconst 0, 1) := by decide +kernel
theorem d_m_away_1 : decode M_m_away.2.1 1 = .ok (.istore_n 2, 1) := by decide +kernel
theorem d_m_away_2 : decode M_m_away.2.1 2 = .ok (.iconst 0, 1) := by decide +kernel
theorem d_m_away_3 : decode M_m_away.2.1 3 = .ok (.istore_n 3, 1) := by decide +kernel
theorem d_m_away_4 : decode M_m_away.2.1 4 = .ok (.iload_n 3, 1) := by decide +kernel
theorem d_m_away_5 : decode M_m_away.2.1 5 = .ok (.iconst 4, 1) := by decide +kernel
theorem d_m_away_6 : decode M_m_away.2.1 6 = .ok (.if_icmp .ge 36, 3) := by decide +kernel
theorem d_m_away_9 : decode M_m_away.2.1 9 = .ok (.aload_n 0, 1) := by decide +kernel
theorem d_m_away_10 : decode M_m_away.2.1 10 = .ok (.getfield 41, 3) := by decide +kernel
theorem d_m_away_13 : decode M_m_away.2.1 13 = .ok (.iload_n 3, 1) := by decide +kernel
theorem d_m_away_14 : decode M_m_away.2.1 14 = .ok (.iaload, 1) := by decide +kernel
theorem d_m_away_15 : decode M_m_away.2.1 15 = .ok (.aload_n 0, 1) := by decide +kernel
theorem d_m_away_16 : decode M_m_away.2.1 16 = .ok (.getfield 16, 3) := by decide +kernel
theorem d_m_away_19 : decode M_m_away.2.1 19 = .ok (.iconst 4, 1) := by decide +kernel
theorem d_m_away_20 : decode M_m_away.2.1 20 = .ok (.iload_n 1, 1) := by decide +kernel
theorem d_m_away_21 : decode M_m_away.2.1 21 = .ok (.imul, 1) := by decide +kernel
theorem d_m_away_22 : decode M_m_away.2.1 22 = .ok (.iload_n 3, 1) := by decide +kernel
theorem d_m_away_23 : decode M_m_away.2.1 23 = .ok (.iadd, 1) := by decide +kernel
theorem d_m_away_24 : decode M_m_away.2.1 24 = .ok (.iaload, 1) := by decide +kernel
theorem d_m_away_25 : decode M_m_away.2.1 25 = .ok (.isub, 1) := by decide +kernel
theorem d_m_away_26 : decode M_m_away.2.1 26 = .ok (.istore 4, 2) := by decide +kernel
theorem d_m_away_28 : decode M_m_away.2.1 28 = .ok (.iload_n 2, 1) := by decide +kernel
theorem d_m_away_29 : decode M_m_away.2.1 29 = .ok (.iload 4, 2) := by decide +kernel
theorem d_m_away_31 : decode M_m_away.2.1 31 = .ok (.iload 4, 2) := by decide +kernel
theorem d_m_away_33 : decode M_m_away.2.1 33 = .ok (.imul, 1) := by decide +kernel
theorem d_m_away_34 : decode M_m_away.2.1 34 = .ok (.iadd, 1) := by decide +kernel
theorem d_m_away_35 : decode M_m_away.2.1 35 = .ok (.istore_n 2, 1) := by decide +kernel
theorem d_m_away_36 : decode M_m_away.2.1 36 = .ok (.iinc 3 1, 3) := by decide +kernel
theorem d_m_away_39 : decode M_m_away.2.1 39 = .ok (.goto (-35), 3) := by decide +kernel
theorem d_m_away_42 : decode M_m_away.2.1 42 = .ok (.iload_n 2, 1) := by decide +kernel
theorem d_m_away_43 : decode M_m_away.2.1 43 = .ok (.ireturn, 1) := by decide +kernel
theorem d_m_remove_0 : decode M_m_remove.2.1 0 = .ok (.aload_n 0, 1) := by decide +kernel
theorem d_m_remove_1 : decode M_m_remove.2.1 1 = .ok (.iload_n 1, 1) := by decide +kernel
theorem d_m_remove_2 : decode M_m_remove.2.1 2 = .ok (.invokevirtual 173, 3) := by decide +kernel
theorem d_m_remove_5 : decode M_m_remove.2.1 5 = .ok (.ifCond .ne 5, 3) := by decide +kernel
theorem d_m_remove_8 : decode M_m_remove.2.1 8 = .ok (.iconst 0, 1) := by decide +kernel
theorem d_m_remove_9 : decode M_m_remove.2.1 9 = .ok (.ireturn, 1) := by decide +kernel
theorem d_m_remove_10 : decode M_m_remove.2.1 10 = .ok (.aload_n 0, 1) := by decide +kernel
theorem d_m_remove_11 : decode M_m_remove.2.1 11 = .ok (.getfield 22, 3) := by decide +kernel
theorem d_m_remove_14 : decode M_m_remove.2.1 14 = .ok (.iload_n 1, 1) := by decide +kernel
theorem d_m_remove_15 : decode M_m_remove.2.1 15 = .ok (.iconst 0, 1) := by decide +kernel
theorem d_m_remove_16 : decode M_m_remove.2.1 16 = .ok (.bastore, 1) := by decide +kernel
theorem d_m_remove_17 : decode M_m_remove.2.1 17 = .ok (.aload_n 0, 1) := by decide +kernel
theorem d_m_remove_18 : decode M_m_remove.2.1 18 = .ok (.dup, 1) := by decide +kernel
theorem d_m_remove_19 : decode M_m_remove.2.1 19 = .ok (.getfield 131, 3) := by decide +kernel
theorem d_m_remove_22 : decode M_m_remove.2.1 22 = .ok (.iconst 1, 1) := by decide +kernel
theorem d_m_remove_23 : decode M_m_remove.2.1 23 = .ok (.isub, 1) := by decide +kernel
theorem d_m_remove_24 : decode M_m_remove.2.1 24 = .ok (.putfield 131, 3) := by decide +kernel
theorem d_m_remove_27 : decode M_m_remove.2.1 27 = .ok (.iconst 1, 1) := by decide +kernel
theorem d_m_remove_28 : decode M_m_remove.2.1 28 = .ok (.ireturn, 1) := by decide +kernel
theorem d_m_there_0 : decode M_m_there.2.1 0 = .ok (.iload_n 1, 1) := by decide +kernel
theorem d_m_there_1 : decode M_m_there.2.1 1 = .ok (.iconst 0, 1) := by decide +kernel
theorem d_m_there_2 : decode M_m_there.2.1 2 = .ok (.sipush 999, 3) := by decide +kernel
theorem d_m_there_5 : decode M_m_there.2.1 5 = .ok (.invokestatic 85, 3) := by decide +kernel
theorem d_m_there_8 : decode M_m_there.2.1 8 = .ok (.ifCond .eq 16, 3) := by decide +kernel
theorem d_m_there_11 : decode M_m_there.2.1 11 = .ok (.aload_n 0, 1) := by decide +kernel
theorem d_m_there_12 : decode M_m_there.2.1 12 = .ok (.getfield 22, 3) := by decide +kernel
theorem d_m_there_15 : decode M_m_there.2.1 15 = .ok (.iload_n 1, 1) := by decide +kernel
theorem d_m_there_16 : decode M_m_there.2.1 16 = .ok (.baload, 1) := by decide +kernel
theorem d_m_there_17 : decode M_m_there.2.1 17 = .ok (.ifCond .eq 7, 3) := by decide +kernel
theorem d_m_there_20 : decode M_m_there.2.1 20 = .ok (.iconst 1, 1) := by decide +kernel
theorem d_m_there_21 : decode M_m_there.2.1 21 = .ok (.goto 4, 3) := by decide +kernel
theorem d_m_there_24 : decode M_m_there.2.1 24 = .ok (.iconst 0, 1) := by decide +kernel
theorem d_m_there_25 : decode M_m_there.2.1 25 = .ok (.ireturn, 1) := by decide +kernel
theorem d_m_listOf_0 : decode M_m_listOf.2.1 0 = .ok (.aload_n 0, 1) := by decide +kernel
theorem d_m_listOf_1 : decode M_m_listOf.2.1 1 = .ok (.iload_n 1, 1) := by decide +kernel
theorem d_m_listOf_2 : decode M_m_listOf.2.1 2 = .ok (.invokevirtual 173, 3) := by decide +kernel
theorem d_m_listOf_5 : decode M_m_listOf.2.1 5 = .ok (.ifCond .ne 5, 3) := by decide +kernel
theorem d_m_listOf_8 : decode M_m_listOf.2.1 8 = .ok (.iconst (-1), 1) := by decide +kernel
theorem d_m_listOf_9 : decode M_m_listOf.2.1 9 = .ok (.ireturn, 1) := by decide +kernel
theorem d_m_listOf_10 : decode M_m_listOf.2.1 10 = .ok (.aload_n 0, 1) := by decide +kernel
theorem d_m_listOf_11 : decode M_m_listOf.2.1 11 = .ok (.iload_n 1, 1) := by decide +kernel
theorem d_m_listOf_12 : decode M_m_listOf.2.1 12 = .ok (.invokevirtual 176, 3) := by decide +kernel
theorem d_m_listOf_15 : decode M_m_listOf.2.1 15 = .ok (.aload_n 0, 1) := by decide +kernel
theorem d_m_listOf_16 : decode M_m_listOf.2.1 16 = .ok (.invokevirtual 170, 3) := by decide +kernel
theorem d_m_listOf_19 : decode M_m_listOf.2.1 19 = .ok (.ireturn, 1) := by decide +kernel
theorem d_m_turnEntry_0 : decode M_m_turnEntry.2.1 0 = .ok (.iconst 0, 1) := by decide +kernel
theorem d_m_turnEntry_1 : decode M_m_turnEntry.2.1 1 = .ok (.istore_n 2, 1) := by decide +kernel
theorem d_m_turnEntry_2 : decode M_m_turnEntry.2.1 2 = .ok (.iload_n 2, 1) := by decide +kernel
theorem d_m_turnEntry_3 : decode M_m_turnEntry.2.1 3 = .ok (.iconst 4, 1) := by decide +kernel
theorem d_m_turnEntry_4 : decode M_m_turnEntry.2.1 4 = .ok (.if_icmp .ge 25, 3) := by decide +kernel
theorem d_m_turnEntry_7 : decode M_m_turnEntry.2.1 7 = .ok (.aload_n 0, 1) := by decide +kernel
theorem d_m_turnEntry_8 : decode M_m_turnEntry.2.1 8 = .ok (.getfield 38, 3) := by decide +kernel
theorem d_m_turnEntry_11 : decode M_m_turnEntry.2.1 11 = .ok (.iload_n 2, 1) := by decide +kernel
theorem d_m_turnEntry_12 : decode M_m_turnEntry.2.1 12 = .ok (.aload_n 0, 1) := by decide +kernel
theorem d_m_turnEntry_13 : decode M_m_turnEntry.2.1 13 = .ok (.getfield 26, 3) := by decide +kernel
theorem d_m_turnEntry_16 : decode M_m_turnEntry.2.1 16 = .ok (.iconst 4, 1) := by decide +kernel
theorem d_m_turnEntry_17 : decode M_m_turnEntry.2.1 17 = .ok (.iload_n 1, 1) := by decide +kernel
theorem d_m_turnEntry_18 : decode M_m_turnEntry.2.1 18 = .ok (.imul, 1) := by decide +kernel
theorem d_m_turnEntry_19 : decode M_m_turnEntry.2.1 19 = .ok (.iload_n 2, 1) := by decide +kernel
theorem d_m_turnEntry_20 : decode M_m_turnEntry.2.1 20 = .ok (.iadd, 1) := by decide +kernel
theorem d_m_turnEntry_21 : decode M_m_turnEntry.2.1 21 = .ok (.iaload, 1) := by decide +kernel
theorem d_m_turnEntry_22 : decode M_m_turnEntry.2.1 22 = .ok (.iastore, 1) := by decide +kernel
theorem d_m_turnEntry_23 : decode M_m_turnEntry.2.1 23 = .ok (.iinc 2 1, 3) := by decide +kernel
theorem d_m_turnEntry_26 : decode M_m_turnEntry.2.1 26 = .ok (.goto (-24), 3) := by decide +kernel
theorem d_m_turnEntry_29 : decode M_m_turnEntry.2.1 29 = .ok (.aload_n 0, 1) := by decide +kernel
theorem d_m_turnEntry_30 : decode M_m_turnEntry.2.1 30 = .ok (.invokevirtual 89, 3) := by decide +kernel
theorem d_m_turnEntry_33 : decode M_m_turnEntry.2.1 33 = .ok (.return_, 1) := by decide +kernel
theorem d_m_codeOf_0 : decode M_m_codeOf.2.1 0 = .ok (.aload_n 0, 1) := by decide +kernel
theorem d_m_codeOf_1 : decode M_m_codeOf.2.1 1 = .ok (.iload_n 1, 1) := by decide +kernel
end
section
theorem d_m_codeOf_2 : decode M_m_codeOf.2.1 2 = .ok (.invokevirtual 173, 3) := by decide +kernel
theorem d_m_codeOf_5 : decode M_m_codeOf.2.1 5 = .ok (.ifCond .ne 5, 3) := by decide +kernel
theorem d_m_codeOf_8 : decode M_m_codeOf.2.1 8 = .ok (.iconst (-1), 1) := by decide +kernel
theorem d_m_codeOf_9 : decode M_m_codeOf.2.1 9 = .ok (.ireturn, 1) := by decide +kernel
theorem d_m_codeOf_10 : decode M_m_codeOf.2.1 10 = .ok (.aload_n 0, 1) := by decide +kernel
theorem d_m_codeOf_11 : decode M_m_codeOf.2.1 11 = .ok (.iload_n 1, 1) := by decide +kernel
theorem d_m_codeOf_12 : decode M_m_codeOf.2.1 12 = .ok (.invokevirtual 176, 3) := by decide +kernel
theorem d_m_codeOf_15 : decode M_m_codeOf.2.1 15 = .ok (.aload_n 0, 1) := by decide +kernel
theorem d_m_codeOf_16 : decode M_m_codeOf.2.1 16 = .ok (.invokevirtual 170, 3) := by decide +kernel
theorem d_m_codeOf_19 : decode M_m_codeOf.2.1 19 = .ok (.istore_n 2, 1) := by decide +kernel
theorem d_m_codeOf_20 : decode M_m_codeOf.2.1 20 = .ok (.aload_n 0, 1) := by decide +kernel
theorem d_m_codeOf_21 : decode M_m_codeOf.2.1 21 = .ok (.iload_n 2, 1) := by decide +kernel
theorem d_m_codeOf_22 : decode M_m_codeOf.2.1 22 = .ok (.invokevirtual 179, 3) := by decide +kernel
theorem d_m_codeOf_25 : decode M_m_codeOf.2.1 25 = .ok (.iconst 0, 1) := by decide +kernel
theorem d_m_codeOf_26 : decode M_m_codeOf.2.1 26 = .ok (.istore_n 3, 1) := by decide +kernel
theorem d_m_codeOf_27 : decode M_m_codeOf.2.1 27 = .ok (.aload_n 0, 1) := by decide +kernel
theorem d_m_codeOf_28 : decode M_m_codeOf.2.1 28 = .ok (.invokevirtual 144, 3) := by decide +kernel
theorem d_m_codeOf_31 : decode M_m_codeOf.2.1 31 = .ok (.iconst 1, 1) := by decide +kernel
theorem d_m_codeOf_32 : decode M_m_codeOf.2.1 32 = .ok (.isub, 1) := by decide +kernel
theorem d_m_codeOf_33 : decode M_m_codeOf.2.1 33 = .ok (.istore 4, 2) := by decide +kernel
theorem d_m_codeOf_35 : decode M_m_codeOf.2.1 35 = .ok (.iload 4, 2) := by decide +kernel
theorem d_m_codeOf_37 : decode M_m_codeOf.2.1 37 = .ok (.ifCond .lt 27, 3) := by decide +kernel
theorem d_m_codeOf_40 : decode M_m_codeOf.2.1 40 = .ok (.aload_n 0, 1) := by decide +kernel
theorem d_m_codeOf_41 : decode M_m_codeOf.2.1 41 = .ok (.iload 4, 2) := by decide +kernel
theorem d_m_codeOf_43 : decode M_m_codeOf.2.1 43 = .ok (.invokevirtual 158, 3) := by decide +kernel
theorem d_m_codeOf_46 : decode M_m_codeOf.2.1 46 = .ok (.istore 5, 2) := by decide +kernel
theorem d_m_codeOf_48 : decode M_m_codeOf.2.1 48 = .ok (.iload_n 3, 1) := by decide +kernel
theorem d_m_codeOf_49 : decode M_m_codeOf.2.1 49 = .ok (.aload_n 0, 1) := by decide +kernel
theorem d_m_codeOf_50 : decode M_m_codeOf.2.1 50 = .ok (.getfield 137, 3) := by decide +kernel
theorem d_m_codeOf_53 : decode M_m_codeOf.2.1 53 = .ok (.imul, 1) := by decide +kernel
theorem d_m_codeOf_54 : decode M_m_codeOf.2.1 54 = .ok (.iload 5, 2) := by decide +kernel
theorem d_m_codeOf_56 : decode M_m_codeOf.2.1 56 = .ok (.iadd, 1) := by decide +kernel
theorem d_m_codeOf_57 : decode M_m_codeOf.2.1 57 = .ok (.istore_n 3, 1) := by decide +kernel
theorem d_m_codeOf_58 : decode M_m_codeOf.2.1 58 = .ok (.iinc 4 (-1), 3) := by decide +kernel
theorem d_m_codeOf_61 : decode M_m_codeOf.2.1 61 = .ok (.goto (-26), 3) := by decide +kernel
theorem d_m_codeOf_64 : decode M_m_codeOf.2.1 64 = .ok (.iload_n 3, 1) := by decide +kernel
theorem d_m_codeOf_65 : decode M_m_codeOf.2.1 65 = .ok (.ireturn, 1) := by decide +kernel
theorem d_m_leave_0 : decode M_m_leave.2.1 0 = .ok (.iconst 0, 1) := by decide +kernel
theorem d_m_leave_1 : decode M_m_leave.2.1 1 = .ok (.istore_n 2, 1) := by decide +kernel
theorem d_m_leave_2 : decode M_m_leave.2.1 2 = .ok (.iload_n 2, 1) := by decide +kernel
theorem d_m_leave_3 : decode M_m_leave.2.1 3 = .ok (.iconst 4, 1) := by decide +kernel
theorem d_m_leave_4 : decode M_m_leave.2.1 4 = .ok (.if_icmp .ge 32, 3) := by decide +kernel
theorem d_m_leave_7 : decode M_m_leave.2.1 7 = .ok (.aload_n 0, 1) := by decide +kernel
theorem d_m_leave_8 : decode M_m_leave.2.1 8 = .ok (.getfield 44, 3) := by decide +kernel
theorem d_m_leave_11 : decode M_m_leave.2.1 11 = .ok (.iload_n 2, 1) := by decide +kernel
theorem d_m_leave_12 : decode M_m_leave.2.1 12 = .ok (.aload_n 0, 1) := by decide +kernel
theorem d_m_leave_13 : decode M_m_leave.2.1 13 = .ok (.getfield 41, 3) := by decide +kernel
theorem d_m_leave_16 : decode M_m_leave.2.1 16 = .ok (.iload_n 2, 1) := by decide +kernel
theorem d_m_leave_17 : decode M_m_leave.2.1 17 = .ok (.iaload, 1) := by decide +kernel
theorem d_m_leave_18 : decode M_m_leave.2.1 18 = .ok (.aload_n 0, 1) := by decide +kernel
theorem d_m_leave_19 : decode M_m_leave.2.1 19 = .ok (.getfield 16, 3) := by decide +kernel
theorem d_m_leave_22 : decode M_m_leave.2.1 22 = .ok (.iconst 4, 1) := by decide +kernel
theorem d_m_leave_23 : decode M_m_leave.2.1 23 = .ok (.iload_n 1, 1) := by decide +kernel
theorem d_m_leave_24 : decode M_m_leave.2.1 24 = .ok (.imul, 1) := by decide +kernel
theorem d_m_leave_25 : decode M_m_leave.2.1 25 = .ok (.iload_n 2, 1) := by decide +kernel
theorem d_m_leave_26 : decode M_m_leave.2.1 26 = .ok (.iadd, 1) := by decide +kernel
theorem d_m_leave_27 : decode M_m_leave.2.1 27 = .ok (.iaload, 1) := by decide +kernel
theorem d_m_leave_28 : decode M_m_leave.2.1 28 = .ok (.isub, 1) := by decide +kernel
theorem d_m_leave_29 : decode M_m_leave.2.1 29 = .ok (.iastore, 1) := by decide +kernel
theorem d_m_leave_30 : decode M_m_leave.2.1 30 = .ok (.iinc 2 1, 3) := by decide +kernel
theorem d_m_leave_33 : decode M_m_leave.2.1 33 = .ok (.goto (-31), 3) := by decide +kernel
theorem d_m_leave_36 : decode M_m_leave.2.1 36 = .ok (.return_, 1) := by decide +kernel
theorem d_m_entries_0 : decode M_m_entries.2.1 0 = .ok (.aload_n 0, 1) := by decide +kernel
theorem d_m_entries_1 : decode M_m_entries.2.1 1 = .ok (.getfield 92, 3) := by decide +kernel
theorem d_m_entries_4 : decode M_m_entries.2.1 4 = .ok (.ifCond .eq 17, 3) := by decide +kernel
theorem d_m_entries_7 : decode M_m_entries.2.1 7 = .ok (.iload_n 1, 1) := by decide +kernel
theorem d_m_entries_8 : decode M_m_entries.2.1 8 = .ok (.iconst 0, 1) := by decide +kernel
theorem d_m_entries_9 : decode M_m_entries.2.1 9 = .ok (.aload_n 0, 1) := by decide +kernel
theorem d_m_entries_10 : decode M_m_entries.2.1 10 = .ok (.getfield 134, 3) := by decide +kernel
theorem d_m_entries_13 : decode M_m_entries.2.1 13 = .ok (.iconst 1, 1) := by decide +kernel
theorem d_m_entries_14 : decode M_m_entries.2.1 14 = .ok (.isub, 1) := by decide +kernel
theorem d_m_entries_15 : decode M_m_entries.2.1 15 = .ok (.invokestatic 85, 3) := by decide +kernel
theorem d_m_entries_18 : decode M_m_entries.2.1 18 = .ok (.ifCond .ne 5, 3) := by decide +kernel
theorem d_m_entries_21 : decode M_m_entries.2.1 21 = .ok (.iconst (-1), 1) := by decide +kernel
theorem d_m_entries_22 : decode M_m_entries.2.1 22 = .ok (.ireturn, 1) := by decide +kernel
theorem d_m_entries_23 : decode M_m_entries.2.1 23 = .ok (.iconst 0, 1) := by decide +kernel
theorem d_m_entries_24 : decode M_m_entries.2.1 24 = .ok (.istore_n 2, 1) := by decide +kernel
theorem d_m_entries_25 : decode M_m_entries.2.1 25 = .ok (.iconst 0, 1) := by decide +kernel
theorem d_m_entries_26 : decode M_m_entries.2.1 26 = .ok (.istore_n 3, 1) := by decide +kernel
theorem d_m_entries_27 : decode M_m_entries.2.1 27 = .ok (.iload_n 3, 1) := by decide +kernel
theorem d_m_entries_28 : decode M_m_entries.2.1 28 = .ok (.sipush 1000, 3) := by decide +kernel
theorem d_m_entries_31 : decode M_m_entries.2.1 31 = .ok (.if_icmp .ge 39, 3) := by decide +kernel
theorem d_m_entries_34 : decode M_m_entries.2.1 34 = .ok (.aload_n 0, 1) := by decide +kernel
theorem d_m_entries_35 : decode M_m_entries.2.1 35 = .ok (.getfield 22, 3) := by decide +kernel
theorem d_m_entries_38 : decode M_m_entries.2.1 38 = .ok (.iload_n 3, 1) := by decide +kernel
theorem d_m_entries_39 : decode M_m_entries.2.1 39 = .ok (.baload, 1) := by decide +kernel
theorem d_m_entries_40 : decode M_m_entries.2.1 40 = .ok (.ifCond .eq 24, 3) := by decide +kernel
theorem d_m_entries_43 : decode M_m_entries.2.1 43 = .ok (.aload_n 0, 1) := by decide +kernel
theorem d_m_entries_44 : decode M_m_entries.2.1 44 = .ok (.iload_n 3, 1) := by decide +kernel
theorem d_m_entries_45 : decode M_m_entries.2.1 45 = .ok (.invokevirtual 176, 3) := by decide +kernel
theorem d_m_entries_48 : decode M_m_entries.2.1 48 = .ok (.iload_n 2, 1) := by decide +kernel
theorem d_m_entries_49 : decode M_m_entries.2.1 49 = .ok (.aload_n 0, 1) := by decide +kernel
theorem d_m_entries_50 : decode M_m_entries.2.1 50 = .ok (.invokevirtual 170, 3) := by decide +kernel
theorem d_m_entries_53 : decode M_m_entries.2.1 53 = .ok (.iload_n 1, 1) := by decide +kernel
theorem d_m_entries_54 : decode M_m_entries.2.1 54 = .ok (.if_icmp .ne 7, 3) := by decide +kernel
theorem d_m_entries_57 : decode M_m_entries.2.1 57 = .ok (.iconst 1, 1) := by decide +kernel
theorem d_m_entries_58 : decode M_m_entries.2.1 58 = .ok (.goto 4, 3) := by decide +kernel
theorem d_m_entries_61 : decode M_m_entries.2.1 61 = .ok (.iconst 0, 1) := by decide +kernel
theorem d_m_entries_62 : decode M_m_entries.2.1 62 = .ok (.iadd, 1) := by decide +kernel
theorem d_m_entries_63 : decode M_m_entries.2.1 63 = .ok (.istore_n 2, 1) := by decide +kernel
theorem d_m_entries_64 : decode M_m_entries.2.1 64 = .ok (.iinc 3 1, 3) := by decide +kernel
theorem d_m_entries_67 : decode M_m_entries.2.1 67 = .ok (.goto (-40), 3) := by decide +kernel
theorem d_m_entries_70 : decode M_m_entries.2.1 70 = .ok (.iload_n 2, 1) := by decide +kernel
theorem d_m_entries_71 : decode M_m_entries.2.1 71 = .ok (.ireturn, 1) := by decide +kernel
theorem d_m_effort_0 : decode M_m_effort.2.1 0 = .ok (.iload_n 1, 1) := by decide +kernel
theorem d_m_effort_1 : decode M_m_effort.2.1 1 = .ok (.iconst 1, 1) := by decide +kernel
theorem d_m_effort_2 : decode M_m_effort.2.1 2 = .ok (.iconst 4, 1) := by decide +kernel
theorem d_m_effort_3 : decode M_m_effort.2.1 3 = .ok (.invokestatic 85, 3) := by decide +kernel
theorem d_m_effort_6 : decode M_m_effort.2.1 6 = .ok (.ifCond .eq 12, 3) := by decide +kernel
theorem d_m_effort_9 : decode M_m_effort.2.1 9 = .ok (.iload_n 2, 1) := by decide +kernel
theorem d_m_effort_10 : decode M_m_effort.2.1 10 = .ok (.iconst 0, 1) := by decide +kernel
theorem d_m_effort_11 : decode M_m_effort.2.1 11 = .ok (.iconst 3, 1) := by decide +kernel
theorem d_m_effort_12 : decode M_m_effort.2.1 12 = .ok (.invokestatic 85, 3) := by decide +kernel
theorem d_m_effort_15 : decode M_m_effort.2.1 15 = .ok (.ifCond .ne 5, 3) := by decide +kernel
theorem d_m_effort_18 : decode M_m_effort.2.1 18 = .ok (.iconst 0, 1) := by decide +kernel
theorem d_m_effort_19 : decode M_m_effort.2.1 19 = .ok (.ireturn, 1) := by decide +kernel
theorem d_m_effort_20 : decode M_m_effort.2.1 20 = .ok (.aload_n 0, 1) := by decide +kernel
theorem d_m_effort_21 : decode M_m_effort.2.1 21 = .ok (.iload_n 1, 1) := by decide +kernel
theorem d_m_effort_22 : decode M_m_effort.2.1 22 = .ok (.putfield 77, 3) := by decide +kernel
theorem d_m_effort_25 : decode M_m_effort.2.1 25 = .ok (.aload_n 0, 1) := by decide +kernel
theorem d_m_effort_26 : decode M_m_effort.2.1 26 = .ok (.iload_n 2, 1) := by decide +kernel
theorem d_m_effort_27 : decode M_m_effort.2.1 27 = .ok (.putfield 182, 3) := by decide +kernel
theorem d_m_effort_30 : decode M_m_effort.2.1 30 = .ok (.iconst 1, 1) := by decide +kernel
theorem d_m_effort_31 : decode M_m_effort.2.1 31 = .ok (.ireturn, 1) := by decide +kernel
theorem d_m_search_0 : decode M_m_search.2.1 0 = .ok (.aload_n 0, 1) := by decide +kernel
theorem d_m_search_1 : decode M_m_search.2.1 1 = .ok (.iload_n 1, 1) := by decide +kernel
theorem d_m_search_2 : decode M_m_search.2.1 2 = .ok (.iload_n 2, 1) := by decide +kernel
theorem d_m_search_3 : decode M_m_search.2.1 3 = .ok (.iload_n 3, 1) := by decide +kernel
theorem d_m_search_4 : decode M_m_search.2.1 4 = .ok (.iload 4, 2) := by decide +kernel
theorem d_m_search_6 : decode M_m_search.2.1 6 = .ok (.invokevirtual 100, 3) := by decide +kernel
theorem d_m_search_9 : decode M_m_search.2.1 9 = .ok (.istore 6, 2) := by decide +kernel
theorem d_m_search_11 : decode M_m_search.2.1 11 = .ok (.aload_n 0, 1) := by decide +kernel
theorem d_m_search_12 : decode M_m_search.2.1 12 = .ok (.getfield 92, 3) := by decide +kernel
theorem d_m_search_15 : decode M_m_search.2.1 15 = .ok (.ifCond .eq 19, 3) := by decide +kernel
theorem d_m_search_18 : decode M_m_search.2.1 18 = .ok (.iload 6, 2) := by decide +kernel
theorem d_m_search_20 : decode M_m_search.2.1 20 = .ok (.ifCond .eq 14, 3) := by decide +kernel
theorem d_m_search_23 : decode M_m_search.2.1 23 = .ok (.iload 5, 2) := by decide +kernel
theorem d_m_search_25 : decode M_m_search.2.1 25 = .ok (.iconst 1, 1) := by decide +kernel
theorem d_m_search_26 : decode M_m_search.2.1 26 = .ok (.bipush 8, 2) := by decide +kernel
theorem d_m_search_28 : decode M_m_search.2.1 28 = .ok (.invokestatic 85, 3) := by decide +kernel
theorem d_m_search_31 : decode M_m_search.2.1 31 = .ok (.ifCond .ne 27, 3) := by decide +kernel
theorem d_m_search_34 : decode M_m_search.2.1 34 = .ok (.aload_n 0, 1) := by decide +kernel
theorem d_m_search_35 : decode M_m_search.2.1 35 = .ok (.getfield 92, 3) := by decide +kernel
theorem d_m_search_38 : decode M_m_search.2.1 38 = .ok (.ifCond .ne 7, 3) := by decide +kernel
theorem d_m_search_41 : decode M_m_search.2.1 41 = .ok (.iconst (-1), 1) := by decide +kernel
theorem d_m_search_42 : decode M_m_search.2.1 42 = .ok (.goto 15, 3) := by decide +kernel
theorem d_m_search_45 : decode M_m_search.2.1 45 = .ok (.iload 6, 2) := by decide +kernel
theorem d_m_search_47 : decode M_m_search.2.1 47 = .ok (.ifCond .ne 8, 3) := by decide +kernel
theorem d_m_search_50 : decode M_m_search.2.1 50 = .ok (.bipush (-2), 2) := by decide +kernel
theorem d_m_search_52 : decode M_m_search.2.1 52 = .ok (.goto 5, 3) := by decide +kernel
theorem d_m_search_55 : decode M_m_search.2.1 55 = .ok (.bipush (-3), 2) := by decide +kernel
theorem d_m_search_57 : decode M_m_search.2.1 57 = .ok (.ireturn, 1) := by decide +kernel
theorem d_m_search_58 : decode M_m_search.2.1 58 = .ok (.aload_n 0, 1) := by decide +kernel
theorem d_m_search_59 : decode M_m_search.2.1 59 = .ok (.invokevirtual 89, 3) := by decide +kernel
theorem d_m_search_62 : decode M_m_search.2.1 62 = .ok (.iconst 0, 1) := by decide +kernel
theorem d_m_search_63 : decode M_m_search.2.1 63 = .ok (.istore 7, 2) := by decide +kernel
theorem d_m_search_65 : decode M_m_search.2.1 65 = .ok (.iload 7, 2) := by decide +kernel
theorem d_m_search_67 : decode M_m_search.2.1 67 = .ok (.iconst 4, 1) := by decide +kernel
theorem d_m_search_68 : decode M_m_search.2.1 68 = .ok (.if_icmp .ge 23, 3) := by decide +kernel
theorem d_m_search_71 : decode M_m_search.2.1 71 = .ok (.aload_n 0, 1) := by decide +kernel
theorem d_m_search_72 : decode M_m_search.2.1 72 = .ok (.getfield 47, 3) := by decide +kernel
theorem d_m_search_75 : decode M_m_search.2.1 75 = .ok (.iload 7, 2) := by decide +kernel
theorem d_m_search_77 : decode M_m_search.2.1 77 = .ok (.aload_n 0, 1) := by decide +kernel
theorem d_m_search_78 : decode M_m_search.2.1 78 = .ok (.getfield 41, 3) := by decide +kernel
theorem d_m_search_81 : decode M_m_search.2.1 81 = .ok (.iload 7, 2) := by decide +kernel
theorem d_m_search_83 : decode M_m_search.2.1 83 = .ok (.iaload, 1) := by decide +kernel
theorem d_m_search_84 : decode M_m_search.2.1 84 = .ok (.iastore, 1) := by decide +kernel
theorem d_m_search_85 : decode M_m_search.2.1 85 = .ok (.iinc 7 1, 3) := by decide +kernel
theorem d_m_search_88 : decode M_m_search.2.1 88 = .ok (.goto (-23), 3) := by decide +kernel
theorem d_m_search_91 : decode M_m_search.2.1 91 = .ok (.aload_n 0, 1) := by decide +kernel
theorem d_m_search_92 : decode M_m_search.2.1 92 = .ok (.iconst 0, 1) := by decide +kernel
theorem d_m_search_93 : decode M_m_search.2.1 93 = .ok (.putfield 185, 3) := by decide +kernel
theorem d_m_search_96 : decode M_m_search.2.1 96 = .ok (.iconst 0, 1) := by decide +kernel
theorem d_m_search_97 : decode M_m_search.2.1 97 = .ok (.istore 7, 2) := by decide +kernel
theorem d_m_search_99 : decode M_m_search.2.1 99 = .ok (.iload 7, 2) := by decide +kernel
theorem d_m_search_101 : decode M_m_search.2.1 101 = .ok (.sipush 1000, 3) := by decide +kernel
theorem d_m_search_104 : decode M_m_search.2.1 104 = .ok (.if_icmp .ge 25, 3) := by decide +kernel
theorem d_m_search_107 : decode M_m_search.2.1 107 = .ok (.aload_n 0, 1) := by decide +kernel
theorem d_m_search_108 : decode M_m_search.2.1 108 = .ok (.getfield 22, 3) := by decide +kernel
theorem d_m_search_111 : decode M_m_search.2.1 111 = .ok (.iload 7, 2) := by decide +kernel
theorem d_m_search_113 : decode M_m_search.2.1 113 = .ok (.baload, 1) := by decide +kernel
theorem d_m_search_114 : decode M_m_search.2.1 114 = .ok (.ifCond .eq 9, 3) := by decide +kernel
theorem d_m_search_117 : decode M_m_search.2.1 117 = .ok (.aload_n 0, 1) := by decide +kernel
theorem d_m_search_118 : decode M_m_search.2.1 118 = .ok (.iload 7, 2) := by decide +kernel
theorem d_m_search_120 : decode M_m_search.2.1 120 = .ok (.invokevirtual 188, 3) := by decide +kernel
theorem d_m_search_123 : decode M_m_search.2.1 123 = .ok (.iinc 7 1, 3) := by decide +kernel
theorem d_m_search_126 : decode M_m_search.2.1 126 = .ok (.goto (-27), 3) := by decide +kernel
theorem d_m_search_129 : decode M_m_search.2.1 129 = .ok (.aload_n 0, 1) := by decide +kernel
theorem d_m_search_130 : decode M_m_search.2.1 130 = .ok (.aload_n 0, 1) := by decide +kernel
theorem d_m_search_131 : decode M_m_search.2.1 131 = .ok (.getfield 185, 3) := by decide +kernel
theorem d_m_search_134 : decode M_m_search.2.1 134 = .ok (.iload 5, 2) := by decide +kernel
theorem d_m_search_136 : decode M_m_search.2.1 136 = .ok (.if_icmp .ge 10, 3) := by decide +kernel
theorem d_m_search_139 : decode M_m_search.2.1 139 = .ok (.aload_n 0, 1) := by decide +kernel
theorem d_m_search_140 : decode M_m_search.2.1 140 = .ok (.getfield 185, 3) := by decide +kernel
theorem d_m_search_143 : decode M_m_search.2.1 143 = .ok (.goto 5, 3) := by decide +kernel
theorem d_m_search_146 : decode M_m_search.2.1 146 = .ok (.iload 5, 2) := by decide +kernel
theorem d_m_search_148 : decode M_m_search.2.1 148 = .ok (.putfield 191, 3) := by decide +kernel
theorem d_m_search_151 : decode M_m_search.2.1 151 = .ok (.aload_n 0, 1) := by decide +kernel
theorem d_m_search_152 : decode M_m_search.2.1 152 = .ok (.getfield 182, 3) := by decide +kernel
theorem d_m_search_155 : decode M_m_search.2.1 155 = .ok (.ifCond .ne 8, 3) := by decide +kernel
theorem d_m_search_158 : decode M_m_search.2.1 158 = .ok (.iload 5, 2) := by decide +kernel
theorem d_m_search_160 : decode M_m_search.2.1 160 = .ok (.goto 10, 3) := by decide +kernel
theorem d_m_search_163 : decode M_m_search.2.1 163 = .ok (.iload 5, 2) := by decide +kernel
theorem d_m_search_165 : decode M_m_search.2.1 165 = .ok (.aload_n 0, 1) := by decide +kernel
theorem d_m_search_166 : decode M_m_search.2.1 166 = .ok (.getfield 182, 3) := by decide +kernel
theorem d_m_search_169 : decode M_m_search.2.1 169 = .ok (.imul, 1) := by decide +kernel
theorem d_m_search_170 : decode M_m_search.2.1 170 = .ok (.istore 7, 2) := by decide +kernel
theorem d_m_search_172 : decode M_m_search.2.1 172 = .ok (.iconst 0, 1) := by decide +kernel
theorem d_m_search_173 : decode M_m_search.2.1 173 = .ok (.istore 8, 2) := by decide +kernel
theorem d_m_search_175 : decode M_m_search.2.1 175 = .ok (.iload 8, 2) := by decide +kernel
theorem d_m_search_177 : decode M_m_search.2.1 177 = .ok (.aload_n 0, 1) := by decide +kernel
theorem d_m_search_178 : decode M_m_search.2.1 178 = .ok (.getfield 185, 3) := by decide +kernel
theorem d_m_search_181 : decode M_m_search.2.1 181 = .ok (.if_icmp .ge 78, 3) := by decide +kernel
theorem d_m_search_184 : decode M_m_search.2.1 184 = .ok (.aload_n 0, 1) := by decide +kernel
theorem d_m_search_185 : decode M_m_search.2.1 185 = .ok (.iload 8, 2) := by decide +kernel
theorem d_m_search_187 : decode M_m_search.2.1 187 = .ok (.invokevirtual 194, 3) := by decide +kernel
theorem d_m_search_190 : decode M_m_search.2.1 190 = .ok (.istore 9, 2) := by decide +kernel
theorem d_m_search_192 : decode M_m_search.2.1 192 = .ok (.aload_n 0, 1) := by decide +kernel
theorem d_m_search_193 : decode M_m_search.2.1 193 = .ok (.getfield 74, 3) := by decide +kernel
theorem d_m_search_196 : decode M_m_search.2.1 196 = .ok (.iload 8, 2) := by decide +kernel
theorem d_m_search_198 : decode M_m_search.2.1 198 = .ok (.iload 9, 2) := by decide +kernel
theorem d_m_search_200 : decode M_m_search.2.1 200 = .ok (.iload 7, 2) := by decide +kernel
theorem d_m_search_202 : decode M_m_search.2.1 202 = .ok (.if_icmp .ge 7, 3) := by decide +kernel
theorem d_m_search_205 : decode M_m_search.2.1 205 = .ok (.iconst 1, 1) := by decide +kernel
theorem d_m_search_206 : decode M_m_search.2.1 206 = .ok (.goto 4, 3) := by decide +kernel
theorem d_m_search_209 : decode M_m_search.2.1 209 = .ok (.iconst 0, 1) := by decide +kernel
theorem d_m_search_210 : decode M_m_search.2.1 210 = .ok (.bastore, 1) := by decide +kernel
theorem d_m_search_211 : decode M_m_search.2.1 211 = .ok (.aload_n 0, 1) := by decide +kernel
theorem d_m_search_212 : decode M_m_search.2.1 212 = .ok (.getfield 182, 3) := by decide +kernel
theorem d_m_search_215 : decode M_m_search.2.1 215 = .ok (.ifCond .ne 38, 3) := by decide +kernel
theorem d_m_search_218 : decode M_m_search.2.1 218 = .ok (.iload 9, 2) := by decide +kernel
theorem d_m_search_220 : decode M_m_search.2.1 220 = .ok (.iload 5, 2) := by decide +kernel
theorem d_m_search_222 : decode M_m_search.2.1 222 = .ok (.if_icmp .ge 31, 3) := by decide +kernel
theorem d_m_search_225 : decode M_m_search.2.1 225 = .ok (.aload_n 0, 1) := by decide +kernel
theorem d_m_search_226 : decode M_m_search.2.1 226 = .ok (.getfield 29, 3) := by decide +kernel
theorem d_m_search_229 : decode M_m_search.2.1 229 = .ok (.iload 9, 2) := by decide +kernel
theorem d_m_search_231 : decode M_m_search.2.1 231 = .ok (.aload_n 0, 1) := by decide +kernel
theorem d_m_search_232 : decode M_m_search.2.1 232 = .ok (.getfield 65, 3) := by decide +kernel
theorem d_m_search_235 : decode M_m_search.2.1 235 = .ok (.iload 8, 2) := by decide +kernel
theorem d_m_search_237 : decode M_m_search.2.1 237 = .ok (.iaload, 1) := by decide +kernel
theorem d_m_search_238 : decode M_m_search.2.1 238 = .ok (.iastore, 1) := by decide +kernel
theorem d_m_search_239 : decode M_m_search.2.1 239 = .ok (.aload_n 0, 1) := by decide +kernel
theorem d_m_search_240 : decode M_m_search.2.1 240 = .ok (.getfield 32, 3) := by decide +kernel
theorem d_m_search_243 : decode M_m_search.2.1 243 = .ok (.iload 9, 2) := by decide +kernel
theorem d_m_search_245 : decode M_m_search.2.1 245 = .ok (.aload_n 0, 1) := by decide +kernel
theorem d_m_search_246 : decode M_m_search.2.1 246 = .ok (.getfield 68, 3) := by decide +kernel
theorem d_m_search_249 : decode M_m_search.2.1 249 = .ok (.iload 8, 2) := by decide +kernel
theorem d_m_search_251 : decode M_m_search.2.1 251 = .ok (.iaload, 1) := by decide +kernel
theorem d_m_search_252 : decode M_m_search.2.1 252 = .ok (.iastore, 1) := by decide +kernel
theorem d_m_search_253 : decode M_m_search.2.1 253 = .ok (.iinc 8 1, 3) := by decide +kernel
theorem d_m_search_256 : decode M_m_search.2.1 256 = .ok (.goto (-81), 3) := by decide +kernel
theorem d_m_search_259 : decode M_m_search.2.1 259 = .ok (.iconst 0, 1) := by decide +kernel
theorem d_m_search_260 : decode M_m_search.2.1 260 = .ok (.istore 8, 2) := by decide +kernel
theorem d_m_search_262 : decode M_m_search.2.1 262 = .ok (.iload 8, 2) := by decide +kernel
theorem d_m_search_264 : decode M_m_search.2.1 264 = .ok (.aload_n 0, 1) := by decide +kernel
theorem d_m_search_265 : decode M_m_search.2.1 265 = .ok (.getfield 185, 3) := by decide +kernel
theorem d_m_search_268 : decode M_m_search.2.1 268 = .ok (.if_icmp .ge 69, 3) := by decide +kernel
theorem d_m_search_271 : decode M_m_search.2.1 271 = .ok (.aload_n 0, 1) := by decide +kernel
theorem d_m_search_272 : decode M_m_search.2.1 272 = .ok (.iload 8, 2) := by decide +kernel
theorem d_m_search_274 : decode M_m_search.2.1 274 = .ok (.invokevirtual 197, 3) := by decide +kernel
theorem d_m_search_277 : decode M_m_search.2.1 277 = .ok (.istore 9, 2) := by decide +kernel
theorem d_m_search_279 : decode M_m_search.2.1 279 = .ok (.aload_n 0, 1) := by decide +kernel
theorem d_m_search_280 : decode M_m_search.2.1 280 = .ok (.getfield 182, 3) := by decide +kernel
theorem d_m_search_283 : decode M_m_search.2.1 283 = .ok (.ifCond .le 48, 3) := by decide +kernel
theorem d_m_search_286 : decode M_m_search.2.1 286 = .ok (.aload_n 0, 1) := by decide +kernel
theorem d_m_search_287 : decode M_m_search.2.1 287 = .ok (.getfield 74, 3) := by decide +kernel
theorem d_m_search_290 : decode M_m_search.2.1 290 = .ok (.iload 8, 2) := by decide +kernel
theorem d_m_search_292 : decode M_m_search.2.1 292 = .ok (.baload, 1) := by decide +kernel
theorem d_m_search_293 : decode M_m_search.2.1 293 = .ok (.ifCond .eq 38, 3) := by decide +kernel
theorem d_m_search_296 : decode M_m_search.2.1 296 = .ok (.iload 9, 2) := by decide +kernel
theorem d_m_search_298 : decode M_m_search.2.1 298 = .ok (.iload 5, 2) := by decide +kernel
theorem d_m_search_300 : decode M_m_search.2.1 300 = .ok (.if_icmp .ge 31, 3) := by decide +kernel
theorem d_m_search_303 : decode M_m_search.2.1 303 = .ok (.aload_n 0, 1) := by decide +kernel
theorem d_m_search_304 : decode M_m_search.2.1 304 = .ok (.getfield 29, 3) := by decide +kernel
theorem d_m_search_307 : decode M_m_search.2.1 307 = .ok (.iload 9, 2) := by decide +kernel
theorem d_m_search_309 : decode M_m_search.2.1 309 = .ok (.aload_n 0, 1) := by decide +kernel
theorem d_m_search_310 : decode M_m_search.2.1 310 = .ok (.getfield 65, 3) := by decide +kernel
theorem d_m_search_313 : decode M_m_search.2.1 313 = .ok (.iload 8, 2) := by decide +kernel
theorem d_m_search_315 : decode M_m_search.2.1 315 = .ok (.iaload, 1) := by decide +kernel
theorem d_m_search_316 : decode M_m_search.2.1 316 = .ok (.iastore, 1) := by decide +kernel
theorem d_m_search_317 : decode M_m_search.2.1 317 = .ok (.aload_n 0, 1) := by decide +kernel
theorem d_m_search_318 : decode M_m_search.2.1 318 = .ok (.getfield 32, 3) := by decide +kernel
theorem d_m_search_321 : decode M_m_search.2.1 321 = .ok (.iload 9, 2) := by decide +kernel
theorem d_m_search_323 : decode M_m_search.2.1 323 = .ok (.aload_n 0, 1) := by decide +kernel
theorem d_m_search_324 : decode M_m_search.2.1 324 = .ok (.getfield 71, 3) := by decide +kernel
theorem d_m_search_327 : decode M_m_search.2.1 327 = .ok (.iload 8, 2) := by decide +kernel
theorem d_m_search_329 : decode M_m_search.2.1 329 = .ok (.iaload, 1) := by decide +kernel
theorem d_m_search_330 : decode M_m_search.2.1 330 = .ok (.iastore, 1) := by decide +kernel
theorem d_m_search_331 : decode M_m_search.2.1 331 = .ok (.iinc 8 1, 3) := by decide +kernel
theorem d_m_search_334 : decode M_m_search.2.1 334 = .ok (.goto (-72), 3) := by decide +kernel
theorem d_m_search_337 : decode M_m_search.2.1 337 = .ok (.aload_n 0, 1) := by decide +kernel
theorem d_m_search_338 : decode M_m_search.2.1 338 = .ok (.getfield 191, 3) := by decide +kernel
theorem d_m_search_341 : decode M_m_search.2.1 341 = .ok (.ireturn, 1) := by decide +kernel
theorem d_m_measure_0 : decode M_m_measure.2.1 0 = .ok (.aload_n 0, 1) := by decide +kernel
theorem d_m_measure_1 : decode M_m_measure.2.1 1 = .ok (.iload_n 1, 1) := by decide +kernel
theorem d_m_measure_2 : decode M_m_measure.2.1 2 = .ok (.invokevirtual 176, 3) := by decide +kernel
theorem d_m_measure_5 : decode M_m_measure.2.1 5 = .ok (.aload_n 0, 1) := by decide +kernel
theorem d_m_measure_6 : decode M_m_measure.2.1 6 = .ok (.invokevirtual 170, 3) := by decide +kernel
theorem d_m_measure_9 : decode M_m_measure.2.1 9 = .ok (.istore_n 2, 1) := by decide +kernel
theorem d_m_measure_10 : decode M_m_measure.2.1 10 = .ok (.aload_n 0, 1) := by decide +kernel
theorem d_m_measure_11 : decode M_m_measure.2.1 11 = .ok (.iload_n 2, 1) := by decide +kernel
theorem d_m_measure_12 : decode M_m_measure.2.1 12 = .ok (.invokevirtual 200, 3) := by decide +kernel
theorem d_m_measure_15 : decode M_m_measure.2.1 15 = .ok (.ifCond .ne 4, 3) := by decide +kernel
theorem d_m_measure_18 : decode M_m_measure.2.1 18 = .ok (.return_, 1) := by decide +kernel
theorem d_m_measure_19 : decode M_m_measure.2.1 19 = .ok (.aload_n 0, 1) := by decide +kernel
theorem d_m_measure_20 : decode M_m_measure.2.1 20 = .ok (.iload_n 1, 1) := by decide +kernel
theorem d_m_measure_21 : decode M_m_measure.2.1 21 = .ok (.invokevirtual 176, 3) := by decide +kernel
theorem d_m_measure_24 : decode M_m_measure.2.1 24 = .ok (.iconst 0, 1) := by decide +kernel
theorem d_m_measure_25 : decode M_m_measure.2.1 25 = .ok (.istore_n 3, 1) := by decide +kernel
theorem d_m_measure_26 : decode M_m_measure.2.1 26 = .ok (.iconst 0, 1) := by decide +kernel
theorem d_m_measure_27 : decode M_m_measure.2.1 27 = .ok (.istore 4, 2) := by decide +kernel
theorem d_m_measure_29 : decode M_m_measure.2.1 29 = .ok (.iload 4, 2) := by decide +kernel
theorem d_m_measure_31 : decode M_m_measure.2.1 31 = .ok (.iconst 4, 1) := by decide +kernel
theorem d_m_measure_32 : decode M_m_measure.2.1 32 = .ok (.if_icmp .ge 34, 3) := by decide +kernel
theorem d_m_measure_35 : decode M_m_measure.2.1 35 = .ok (.aload_n 0, 1) := by decide +kernel
theorem d_m_measure_36 : decode M_m_measure.2.1 36 = .ok (.getfield 41, 3) := by decide +kernel
theorem d_m_measure_39 : decode M_m_measure.2.1 39 = .ok (.iload 4, 2) := by decide +kernel
theorem d_m_measure_41 : decode M_m_measure.2.1 41 = .ok (.iaload, 1) := by decide +kernel
theorem d_m_measure_42 : decode M_m_measure.2.1 42 = .ok (.aload_n 0, 1) := by decide +kernel
theorem d_m_measure_43 : decode M_m_measure.2.1 43 = .ok (.getfield 47, 3) := by decide +kernel
theorem d_m_measure_46 : decode M_m_measure.2.1 46 = .ok (.iload 4, 2) := by decide +kernel
theorem d_m_measure_48 : decode M_m_measure.2.1 48 = .ok (.iaload, 1) := by decide +kernel
theorem d_m_measure_49 : decode M_m_measure.2.1 49 = .ok (.isub, 1) := by decide +kernel
theorem d_m_measure_50 : decode M_m_measure.2.1 50 = .ok (.istore 5, 2) := by decide +kernel
theorem d_m_measure_52 : decode M_m_measure.2.1 52 = .ok (.iload_n 3, 1) := by decide +kernel
theorem d_m_measure_53 : decode M_m_measure.2.1 53 = .ok (.iload 5, 2) := by decide +kernel
theorem d_m_measure_55 : decode M_m_measure.2.1 55 = .ok (.iload 5, 2) := by decide +kernel
theorem d_m_measure_57 : decode M_m_measure.2.1 57 = .ok (.imul, 1) := by decide +kernel
theorem d_m_measure_58 : decode M_m_measure.2.1 58 = .ok (.iadd, 1) := by decide +kernel
theorem d_m_measure_59 : decode M_m_measure.2.1 59 = .ok (.istore_n 3, 1) := by decide +kernel
theorem d_m_measure_60 : decode M_m_measure.2.1 60 = .ok (.iinc 4 1, 3) := by decide +kernel
theorem d_m_measure_63 : decode M_m_measure.2.1 63 = .ok (.goto (-34), 3) := by decide +kernel
theorem d_m_measure_66 : decode M_m_measure.2.1 66 = .ok (.aload_n 0, 1) := by decide +kernel
theorem d_m_measure_67 : decode M_m_measure.2.1 67 = .ok (.getfield 128, 3) := by decide +kernel
theorem d_m_measure_70 : decode M_m_measure.2.1 70 = .ok (.iconst 2, 1) := by decide +kernel
theorem d_m_measure_71 : decode M_m_measure.2.1 71 = .ok (.if_icmp .ne 7, 3) := by decide +kernel
theorem d_m_measure_74 : decode M_m_measure.2.1 74 = .ok (.iload_n 3, 1) := by decide +kernel
theorem d_m_measure_75 : decode M_m_measure.2.1 75 = .ok (.goto 4, 3) := by decide +kernel
theorem d_m_measure_78 : decode M_m_measure.2.1 78 = .ok (.iconst 0, 1) := by decide +kernel
theorem d_m_measure_79 : decode M_m_measure.2.1 79 = .ok (.istore 4, 2) := by decide +kernel
theorem d_m_measure_81 : decode M_m_measure.2.1 81 = .ok (.iconst 0, 1) := by decide +kernel
theorem d_m_measure_82 : decode M_m_measure.2.1 82 = .ok (.istore 5, 2) := by decide +kernel
theorem d_m_measure_84 : decode M_m_measure.2.1 84 = .ok (.iload 5, 2) := by decide +kernel
theorem d_m_measure_86 : decode M_m_measure.2.1 86 = .ok (.aload_n 0, 1) := by decide +kernel
theorem d_m_measure_87 : decode M_m_measure.2.1 87 = .ok (.invokevirtual 144, 3) := by decide +kernel
theorem d_m_measure_90 : decode M_m_measure.2.1 90 = .ok (.if_icmp .ge 76, 3) := by decide +kernel
theorem d_m_measure_93 : decode M_m_measure.2.1 93 = .ok (.aload_n 0, 1) := by decide +kernel
theorem d_m_measure_94 : decode M_m_measure.2.1 94 = .ok (.iload_n 2, 1) := by decide +kernel
theorem d_m_measure_95 : decode M_m_measure.2.1 95 = .ok (.invokevirtual 179, 3) := by decide +kernel
theorem d_m_measure_98 : decode M_m_measure.2.1 98 = .ok (.aload_n 0, 1) := by decide +kernel
theorem d_m_measure_99 : decode M_m_measure.2.1 99 = .ok (.iload 5, 2) := by decide +kernel
theorem d_m_measure_101 : decode M_m_measure.2.1 101 = .ok (.invokevirtual 158, 3) := by decide +kernel
theorem d_m_measure_104 : decode M_m_measure.2.1 104 = .ok (.istore 6, 2) := by decide +kernel
theorem d_m_measure_106 : decode M_m_measure.2.1 106 = .ok (.iconst 0, 1) := by decide +kernel
theorem d_m_measure_107 : decode M_m_measure.2.1 107 = .ok (.istore 7, 2) := by decide +kernel
theorem d_m_measure_109 : decode M_m_measure.2.1 109 = .ok (.iload 7, 2) := by decide +kernel
theorem d_m_measure_111 : decode M_m_measure.2.1 111 = .ok (.iconst 4, 1) := by decide +kernel
theorem d_m_measure_112 : decode M_m_measure.2.1 112 = .ok (.if_icmp .ge 35, 3) := by decide +kernel
theorem d_m_measure_115 : decode M_m_measure.2.1 115 = .ok (.aload_n 0, 1) := by decide +kernel
theorem d_m_measure_116 : decode M_m_measure.2.1 116 = .ok (.getfield 44, 3) := by decide +kernel
theorem d_m_measure_119 : decode M_m_measure.2.1 119 = .ok (.iload 7, 2) := by decide +kernel
theorem d_m_measure_121 : decode M_m_measure.2.1 121 = .ok (.aload_n 0, 1) := by decide +kernel
theorem d_m_measure_122 : decode M_m_measure.2.1 122 = .ok (.getfield 47, 3) := by decide +kernel
theorem d_m_measure_125 : decode M_m_measure.2.1 125 = .ok (.iload 7, 2) := by decide +kernel
theorem d_m_measure_127 : decode M_m_measure.2.1 127 = .ok (.iaload, 1) := by decide +kernel
theorem d_m_measure_128 : decode M_m_measure.2.1 128 = .ok (.aload_n 0, 1) := by decide +kernel
theorem d_m_measure_129 : decode M_m_measure.2.1 129 = .ok (.getfield 16, 3) := by decide +kernel
theorem d_m_measure_132 : decode M_m_measure.2.1 132 = .ok (.iconst 4, 1) := by decide +kernel
theorem d_m_measure_133 : decode M_m_measure.2.1 133 = .ok (.iload_n 2, 1) := by decide +kernel
theorem d_m_measure_134 : decode M_m_measure.2.1 134 = .ok (.imul, 1) := by decide +kernel
theorem d_m_measure_135 : decode M_m_measure.2.1 135 = .ok (.iload 7, 2) := by decide +kernel
theorem d_m_measure_137 : decode M_m_measure.2.1 137 = .ok (.iadd, 1) := by decide +kernel
theorem d_m_measure_138 : decode M_m_measure.2.1 138 = .ok (.iaload, 1) := by decide +kernel
theorem d_m_measure_139 : decode M_m_measure.2.1 139 = .ok (.isub, 1) := by decide +kernel
theorem d_m_measure_140 : decode M_m_measure.2.1 140 = .ok (.iastore, 1) := by decide +kernel
theorem d_m_measure_141 : decode M_m_measure.2.1 141 = .ok (.iinc 7 1, 3) := by decide +kernel
theorem d_m_measure_144 : decode M_m_measure.2.1 144 = .ok (.goto (-35), 3) := by decide +kernel
theorem d_m_measure_147 : decode M_m_measure.2.1 147 = .ok (.iload 4, 2) := by decide +kernel
theorem d_m_measure_149 : decode M_m_measure.2.1 149 = .ok (.aload_n 0, 1) := by decide +kernel
theorem d_m_measure_150 : decode M_m_measure.2.1 150 = .ok (.iload 5, 2) := by decide +kernel
theorem d_m_measure_152 : decode M_m_measure.2.1 152 = .ok (.iload 6, 2) := by decide +kernel
theorem d_m_measure_154 : decode M_m_measure.2.1 154 = .ok (.invokevirtual 161, 3) := by decide +kernel
theorem d_m_measure_157 : decode M_m_measure.2.1 157 = .ok (.iadd, 1) := by decide +kernel
theorem d_m_measure_158 : decode M_m_measure.2.1 158 = .ok (.istore 4, 2) := by decide +kernel
theorem d_m_measure_160 : decode M_m_measure.2.1 160 = .ok (.iinc 5 1, 3) := by decide +kernel
theorem d_m_measure_163 : decode M_m_measure.2.1 163 = .ok (.goto (-79), 3) := by decide +kernel
theorem d_m_measure_166 : decode M_m_measure.2.1 166 = .ok (.aload_n 0, 1) := by decide +kernel
theorem d_m_measure_167 : decode M_m_measure.2.1 167 = .ok (.getfield 65, 3) := by decide +kernel
theorem d_m_measure_170 : decode M_m_measure.2.1 170 = .ok (.aload_n 0, 1) := by decide +kernel
theorem d_m_measure_171 : decode M_m_measure.2.1 171 = .ok (.getfield 185, 3) := by decide +kernel
theorem d_m_measure_174 : decode M_m_measure.2.1 174 = .ok (.iload_n 1, 1) := by decide +kernel
theorem d_m_measure_175 : decode M_m_measure.2.1 175 = .ok (.iastore, 1) := by decide +kernel
theorem d_m_measure_176 : decode M_m_measure.2.1 176 = .ok (.aload_n 0, 1) := by decide +kernel
theorem d_m_measure_177 : decode M_m_measure.2.1 177 = .ok (.getfield 68, 3) := by decide +kernel
theorem d_m_measure_180 : decode M_m_measure.2.1 180 = .ok (.aload_n 0, 1) := by decide +kernel
theorem d_m_measure_181 : decode M_m_measure.2.1 181 = .ok (.getfield 185, 3) := by decide +kernel
theorem d_m_measure_184 : decode M_m_measure.2.1 184 = .ok (.iload 4, 2) := by decide +kernel
theorem d_m_measure_186 : decode M_m_measure.2.1 186 = .ok (.iastore, 1) := by decide +kernel
theorem d_m_measure_187 : decode M_m_measure.2.1 187 = .ok (.aload_n 0, 1) := by decide +kernel
theorem d_m_measure_188 : decode M_m_measure.2.1 188 = .ok (.getfield 71, 3) := by decide +kernel
theorem d_m_measure_191 : decode M_m_measure.2.1 191 = .ok (.aload_n 0, 1) := by decide +kernel
theorem d_m_measure_192 : decode M_m_measure.2.1 192 = .ok (.getfield 185, 3) := by decide +kernel
theorem d_m_measure_195 : decode M_m_measure.2.1 195 = .ok (.iload_n 3, 1) := by decide +kernel
theorem d_m_measure_196 : decode M_m_measure.2.1 196 = .ok (.iastore, 1) := by decide +kernel
theorem d_m_measure_197 : decode M_m_measure.2.1 197 = .ok (.aload_n 0, 1) := by decide +kernel
theorem d_m_measure_198 : decode M_m_measure.2.1 198 = .ok (.dup, 1) := by decide +kernel
theorem d_m_measure_199 : decode M_m_measure.2.1 199 = .ok (.getfield 185, 3) := by decide +kernel
theorem d_m_measure_202 : decode M_m_measure.2.1 202 = .ok (.iconst 1, 1) := by decide +kernel
theorem d_m_measure_203 : decode M_m_measure.2.1 203 = .ok (.iadd, 1) := by decide +kernel
theorem d_m_measure_204 : decode M_m_measure.2.1 204 = .ok (.putfield 185, 3) := by decide +kernel
theorem d_m_measure_207 : decode M_m_measure.2.1 207 = .ok (.return_, 1) := by decide +kernel
theorem d_m_probed_0 : decode M_m_probed.2.1 0 = .ok (.iconst 0, 1) := by decide +kernel
theorem d_m_probed_1 : decode M_m_probed.2.1 1 = .ok (.istore_n 2, 1) := by decide +kernel
theorem d_m_probed_2 : decode M_m_probed.2.1 2 = .ok (.iconst 0, 1) := by decide +kernel
theorem d_m_probed_3 : decode M_m_probed.2.1 3 = .ok (.istore_n 3, 1) := by decide +kernel
theorem d_m_probed_4 : decode M_m_probed.2.1 4 = .ok (.iload_n 3, 1) := by decide +kernel
theorem d_m_probed_5 : decode M_m_probed.2.1 5 = .ok (.iconst 4, 1) := by decide +kernel
theorem d_m_probed_6 : decode M_m_probed.2.1 6 = .ok (.if_icmp .ge 21, 3) := by decide +kernel
theorem d_m_probed_9 : decode M_m_probed.2.1 9 = .ok (.aload_n 0, 1) := by decide +kernel
theorem d_m_probed_10 : decode M_m_probed.2.1 10 = .ok (.getfield 41, 3) := by decide +kernel
theorem d_m_probed_13 : decode M_m_probed.2.1 13 = .ok (.iload_n 3, 1) := by decide +kernel
theorem d_m_probed_14 : decode M_m_probed.2.1 14 = .ok (.aload_n 0, 1) := by decide +kernel
theorem d_m_probed_15 : decode M_m_probed.2.1 15 = .ok (.getfield 47, 3) := by decide +kernel
theorem d_m_probed_18 : decode M_m_probed.2.1 18 = .ok (.iload_n 3, 1) := by decide +kernel
theorem d_m_probed_19 : decode M_m_probed.2.1 19 = .ok (.iaload, 1) := by decide +kernel
theorem d_m_probed_20 : decode M_m_probed.2.1 20 = .ok (.iastore, 1) := by decide +kernel
theorem d_m_probed_21 : decode M_m_probed.2.1 21 = .ok (.iinc 3 1, 3) := by decide +kernel
theorem d_m_probed_24 : decode M_m_probed.2.1 24 = .ok (.goto (-20), 3) := by decide +kernel
theorem d_m_probed_27 : decode M_m_probed.2.1 27 = .ok (.aload_n 0, 1) := by decide +kernel
theorem d_m_probed_28 : decode M_m_probed.2.1 28 = .ok (.iload_n 1, 1) := by decide +kernel
theorem d_m_probed_29 : decode M_m_probed.2.1 29 = .ok (.invokevirtual 167, 3) := by decide +kernel
theorem d_m_probed_32 : decode M_m_probed.2.1 32 = .ok (.istore_n 3, 1) := by decide +kernel
theorem d_m_probed_33 : decode M_m_probed.2.1 33 = .ok (.iconst 0, 1) := by decide +kernel
theorem d_m_probed_34 : decode M_m_probed.2.1 34 = .ok (.istore 4, 2) := by decide +kernel
theorem d_m_probed_36 : decode M_m_probed.2.1 36 = .ok (.iload 4, 2) := by decide +kernel
theorem d_m_probed_38 : decode M_m_probed.2.1 38 = .ok (.aload_n 0, 1) := by decide +kernel
theorem d_m_probed_39 : decode M_m_probed.2.1 39 = .ok (.getfield 134, 3) := by decide +kernel
theorem d_m_probed_42 : decode M_m_probed.2.1 42 = .ok (.if_icmp .ge 43, 3) := by decide +kernel
theorem d_m_probed_45 : decode M_m_probed.2.1 45 = .ok (.aload_n 0, 1) := by decide +kernel
theorem d_m_probed_46 : decode M_m_probed.2.1 46 = .ok (.iload 4, 2) := by decide +kernel
theorem d_m_probed_48 : decode M_m_probed.2.1 48 = .ok (.invokevirtual 167, 3) := by decide +kernel
theorem d_m_probed_51 : decode M_m_probed.2.1 51 = .ok (.istore 5, 2) := by decide +kernel
theorem d_m_probed_53 : decode M_m_probed.2.1 53 = .ok (.iload_n 2, 1) := by decide +kernel
theorem d_m_probed_54 : decode M_m_probed.2.1 54 = .ok (.iload 5, 2) := by decide +kernel
theorem d_m_probed_56 : decode M_m_probed.2.1 56 = .ok (.iload_n 3, 1) := by decide +kernel
theorem d_m_probed_57 : decode M_m_probed.2.1 57 = .ok (.if_icmp .lt 15, 3) := by decide +kernel
theorem d_m_probed_60 : decode M_m_probed.2.1 60 = .ok (.iload 5, 2) := by decide +kernel
theorem d_m_probed_62 : decode M_m_probed.2.1 62 = .ok (.iload_n 3, 1) := by decide +kernel
theorem d_m_probed_63 : decode M_m_probed.2.1 63 = .ok (.if_icmp .ne 13, 3) := by decide +kernel
theorem d_m_probed_66 : decode M_m_probed.2.1 66 = .ok (.iload 4, 2) := by decide +kernel
end
section
theorem d_m_probed_68 : decode M_m_probed.2.1 68 = .ok (.iload_n 1, 1) := by decide +kernel
theorem d_m_probed_69 : decode M_m_probed.2.1 69 = .ok (.if_icmp .ge 7, 3) := by decide +kernel
theorem d_m_probed_72 : decode M_m_probed.2.1 72 = .ok (.iconst 1, 1) := by decide +kernel
theorem d_m_probed_73 : decode M_m_probed.2.1 73 = .ok (.goto 4, 3) := by decide +kernel
theorem d_m_probed_76 : decode M_m_probed.2.1 76 = .ok (.iconst 0, 1) := by decide +kernel
theorem d_m_probed_77 : decode M_m_probed.2.1 77 = .ok (.iadd, 1) := by decide +kernel
theorem d_m_probed_78 : decode M_m_probed.2.1 78 = .ok (.istore_n 2, 1) := by decide +kernel
theorem d_m_probed_79 : decode M_m_probed.2.1 79 = .ok (.iinc 4 1, 3) := by decide +kernel
theorem d_m_probed_82 : decode M_m_probed.2.1 82 = .ok (.goto (-46), 3) := by decide +kernel
theorem d_m_probed_85 : decode M_m_probed.2.1 85 = .ok (.iload_n 2, 1) := by decide +kernel
theorem d_m_probed_86 : decode M_m_probed.2.1 86 = .ok (.aload_n 0, 1) := by decide +kernel
theorem d_m_probed_87 : decode M_m_probed.2.1 87 = .ok (.getfield 77, 3) := by decide +kernel
theorem d_m_probed_90 : decode M_m_probed.2.1 90 = .ok (.if_icmp .ge 7, 3) := by decide +kernel
theorem d_m_probed_93 : decode M_m_probed.2.1 93 = .ok (.iconst 1, 1) := by decide +kernel
theorem d_m_probed_94 : decode M_m_probed.2.1 94 = .ok (.goto 4, 3) := by decide +kernel
theorem d_m_probed_97 : decode M_m_probed.2.1 97 = .ok (.iconst 0, 1) := by decide +kernel
theorem d_m_probed_98 : decode M_m_probed.2.1 98 = .ok (.ireturn, 1) := by decide +kernel
theorem d_m_rank_0 : decode M_m_rank.2.1 0 = .ok (.iconst 0, 1) := by decide +kernel
theorem d_m_rank_1 : decode M_m_rank.2.1 1 = .ok (.istore_n 2, 1) := by decide +kernel
theorem d_m_rank_2 : decode M_m_rank.2.1 2 = .ok (.iconst 0, 1) := by decide +kernel
theorem d_m_rank_3 : decode M_m_rank.2.1 3 = .ok (.istore_n 3, 1) := by decide +kernel
theorem d_m_rank_4 : decode M_m_rank.2.1 4 = .ok (.iload_n 3, 1) := by decide +kernel
theorem d_m_rank_5 : decode M_m_rank.2.1 5 = .ok (.aload_n 0, 1) := by decide +kernel
theorem d_m_rank_6 : decode M_m_rank.2.1 6 = .ok (.getfield 185, 3) := by decide +kernel
theorem d_m_rank_9 : decode M_m_rank.2.1 9 = .ok (.if_icmp .ge 62, 3) := by decide +kernel
theorem d_m_rank_12 : decode M_m_rank.2.1 12 = .ok (.iload_n 2, 1) := by decide +kernel
theorem d_m_rank_13 : decode M_m_rank.2.1 13 = .ok (.aload_n 0, 1) := by decide +kernel
theorem d_m_rank_14 : decode M_m_rank.2.1 14 = .ok (.getfield 68, 3) := by decide +kernel
theorem d_m_rank_17 : decode M_m_rank.2.1 17 = .ok (.iload_n 3, 1) := by decide +kernel
theorem d_m_rank_18 : decode M_m_rank.2.1 18 = .ok (.iaload, 1) := by decide +kernel
theorem d_m_rank_19 : decode M_m_rank.2.1 19 = .ok (.aload_n 0, 1) := by decide +kernel
theorem d_m_rank_20 : decode M_m_rank.2.1 20 = .ok (.getfield 68, 3) := by decide +kernel
theorem d_m_rank_23 : decode M_m_rank.2.1 23 = .ok (.iload_n 1, 1) := by decide +kernel
theorem d_m_rank_24 : decode M_m_rank.2.1 24 = .ok (.iaload, 1) := by decide +kernel
theorem d_m_rank_25 : decode M_m_rank.2.1 25 = .ok (.if_icmp .lt 33, 3) := by decide +kernel
theorem d_m_rank_28 : decode M_m_rank.2.1 28 = .ok (.aload_n 0, 1) := by decide +kernel
theorem d_m_rank_29 : decode M_m_rank.2.1 29 = .ok (.getfield 68, 3) := by decide +kernel
theorem d_m_rank_32 : decode M_m_rank.2.1 32 = .ok (.iload_n 3, 1) := by decide +kernel
theorem d_m_rank_33 : decode M_m_rank.2.1 33 = .ok (.iaload, 1) := by decide +kernel
theorem d_m_rank_34 : decode M_m_rank.2.1 34 = .ok (.aload_n 0, 1) := by decide +kernel
theorem d_m_rank_35 : decode M_m_rank.2.1 35 = .ok (.getfield 68, 3) := by decide +kernel
theorem d_m_rank_38 : decode M_m_rank.2.1 38 = .ok (.iload_n 1, 1) := by decide +kernel
theorem d_m_rank_39 : decode M_m_rank.2.1 39 = .ok (.iaload, 1) := by decide +kernel
theorem d_m_rank_40 : decode M_m_rank.2.1 40 = .ok (.if_icmp .ne 22, 3) := by decide +kernel
theorem d_m_rank_43 : decode M_m_rank.2.1 43 = .ok (.aload_n 0, 1) := by decide +kernel
theorem d_m_rank_44 : decode M_m_rank.2.1 44 = .ok (.getfield 65, 3) := by decide +kernel
theorem d_m_rank_47 : decode M_m_rank.2.1 47 = .ok (.iload_n 3, 1) := by decide +kernel
theorem d_m_rank_48 : decode M_m_rank.2.1 48 = .ok (.iaload, 1) := by decide +kernel
theorem d_m_rank_49 : decode M_m_rank.2.1 49 = .ok (.aload_n 0, 1) := by decide +kernel
theorem d_m_rank_50 : decode M_m_rank.2.1 50 = .ok (.getfield 65, 3) := by decide +kernel
theorem d_m_rank_53 : decode M_m_rank.2.1 53 = .ok (.iload_n 1, 1) := by decide +kernel
theorem d_m_rank_54 : decode M_m_rank.2.1 54 = .ok (.iaload, 1) := by decide +kernel
theorem d_m_rank_55 : decode M_m_rank.2.1 55 = .ok (.if_icmp .ge 7, 3) := by decide +kernel
theorem d_m_rank_58 : decode M_m_rank.2.1 58 = .ok (.iconst 1, 1) := by decide +kernel
theorem d_m_rank_59 : decode M_m_rank.2.1 59 = .ok (.goto 4, 3) := by decide +kernel
theorem d_m_rank_62 : decode M_m_rank.2.1 62 = .ok (.iconst 0, 1) := by decide +kernel
theorem d_m_rank_63 : decode M_m_rank.2.1 63 = .ok (.iadd, 1) := by decide +kernel
theorem d_m_rank_64 : decode M_m_rank.2.1 64 = .ok (.istore_n 2, 1) := by decide +kernel
theorem d_m_rank_65 : decode M_m_rank.2.1 65 = .ok (.iinc 3 1, 3) := by decide +kernel
theorem d_m_rank_68 : decode M_m_rank.2.1 68 = .ok (.goto (-64), 3) := by decide +kernel
theorem d_m_rank_71 : decode M_m_rank.2.1 71 = .ok (.iload_n 2, 1) := by decide +kernel
theorem d_m_rank_72 : decode M_m_rank.2.1 72 = .ok (.ireturn, 1) := by decide +kernel
theorem d_m_exactRank_0 : decode M_m_exactRank.2.1 0 = .ok (.iconst 0, 1) := by decide +kernel
theorem d_m_exactRank_1 : decode M_m_exactRank.2.1 1 = .ok (.istore_n 2, 1) := by decide +kernel
theorem d_m_exactRank_2 : decode M_m_exactRank.2.1 2 = .ok (.iconst 0, 1) := by decide +kernel
theorem d_m_exactRank_3 : decode M_m_exactRank.2.1 3 = .ok (.istore_n 3, 1) := by decide +kernel
theorem d_m_exactRank_4 : decode M_m_exactRank.2.1 4 = .ok (.iload_n 3, 1) := by decide +kernel
theorem d_m_exactRank_5 : decode M_m_exactRank.2.1 5 = .ok (.aload_n 0, 1) := by decide +kernel
theorem d_m_exactRank_6 : decode M_m_exactRank.2.1 6 = .ok (.getfield 185, 3) := by decide +kernel
theorem d_m_exactRank_9 : decode M_m_exactRank.2.1 9 = .ok (.if_icmp .ge 71, 3) := by decide +kernel
theorem d_m_exactRank_12 : decode M_m_exactRank.2.1 12 = .ok (.iload_n 2, 1) := by decide +kernel
theorem d_m_exactRank_13 : decode M_m_exactRank.2.1 13 = .ok (.aload_n 0, 1) := by decide +kernel
theorem d_m_exactRank_14 : decode M_m_exactRank.2.1 14 = .ok (.getfield 74, 3) := by decide +kernel
theorem d_m_exactRank_17 : decode M_m_exactRank.2.1 17 = .ok (.iload_n 3, 1) := by decide +kernel
theorem d_m_exactRank_18 : decode M_m_exactRank.2.1 18 = .ok (.baload, 1) := by decide +kernel
theorem d_m_exactRank_19 : decode M_m_exactRank.2.1 19 = .ok (.ifCond .eq 52, 3) := by decide +kernel
theorem d_m_exactRank_22 : decode M_m_exactRank.2.1 22 = .ok (.aload_n 0, 1) := by decide +kernel
theorem d_m_exactRank_23 : decode M_m_exactRank.2.1 23 = .ok (.getfield 71, 3) := by decide +kernel
theorem d_m_exactRank_26 : decode M_m_exactRank.2.1 26 = .ok (.iload_n 3, 1) := by decide +kernel
theorem d_m_exactRank_27 : decode M_m_exactRank.2.1 27 = .ok (.iaload, 1) := by decide +kernel
theorem d_m_exactRank_28 : decode M_m_exactRank.2.1 28 = .ok (.aload_n 0, 1) := by decide +kernel
theorem d_m_exactRank_29 : decode M_m_exactRank.2.1 29 = .ok (.getfield 71, 3) := by decide +kernel
theorem d_m_exactRank_32 : decode M_m_exactRank.2.1 32 = .ok (.iload_n 1, 1) := by decide +kernel
theorem d_m_exactRank_33 : decode M_m_exactRank.2.1 33 = .ok (.iaload, 1) := by decide +kernel
theorem d_m_exactRank_34 : decode M_m_exactRank.2.1 34 = .ok (.if_icmp .lt 33, 3) := by decide +kernel
theorem d_m_exactRank_37 : decode M_m_exactRank.2.1 37 = .ok (.aload_n 0, 1) := by decide +kernel
theorem d_m_exactRank_38 : decode M_m_exactRank.2.1 38 = .ok (.getfield 71, 3) := by decide +kernel
theorem d_m_exactRank_41 : decode M_m_exactRank.2.1 41 = .ok (.iload_n 3, 1) := by decide +kernel
theorem d_m_exactRank_42 : decode M_m_exactRank.2.1 42 = .ok (.iaload, 1) := by decide +kernel
theorem d_m_exactRank_43 : decode M_m_exactRank.2.1 43 = .ok (.aload_n 0, 1) := by decide +kernel
theorem d_m_exactRank_44 : decode M_m_exactRank.2.1 44 = .ok (.getfield 71, 3) := by decide +kernel
theorem d_m_exactRank_47 : decode M_m_exactRank.2.1 47 = .ok (.iload_n 1, 1) := by decide +kernel
theorem d_m_exactRank_48 : decode M_m_exactRank.2.1 48 = .ok (.iaload, 1) := by decide +kernel
theorem d_m_exactRank_49 : decode M_m_exactRank.2.1 49 = .ok (.if_icmp .ne 22, 3) := by decide +kernel
theorem d_m_exactRank_52 : decode M_m_exactRank.2.1 52 = .ok (.aload_n 0, 1) := by decide +kernel
theorem d_m_exactRank_53 : decode M_m_exactRank.2.1 53 = .ok (.getfield 65, 3) := by decide +kernel
theorem d_m_exactRank_56 : decode M_m_exactRank.2.1 56 = .ok (.iload_n 3, 1) := by decide +kernel
theorem d_m_exactRank_57 : decode M_m_exactRank.2.1 57 = .ok (.iaload, 1) := by decide +kernel
theorem d_m_exactRank_58 : decode M_m_exactRank.2.1 58 = .ok (.aload_n 0, 1) := by decide +kernel
theorem d_m_exactRank_59 : decode M_m_exactRank.2.1 59 = .ok (.getfield 65, 3) := by decide +kernel
theorem d_m_exactRank_62 : decode M_m_exactRank.2.1 62 = .ok (.iload_n 1, 1) := by decide +kernel
theorem d_m_exactRank_63 : decode M_m_exactRank.2.1 63 = .ok (.iaload, 1) := by decide +kernel
theorem d_m_exactRank_64 : decode M_m_exactRank.2.1 64 = .ok (.if_icmp .ge 7, 3) := by decide +kernel
theorem d_m_exactRank_67 : decode M_m_exactRank.2.1 67 = .ok (.iconst 1, 1) := by decide +kernel
theorem d_m_exactRank_68 : decode M_m_exactRank.2.1 68 = .ok (.goto 4, 3) := by decide +kernel
theorem d_m_exactRank_71 : decode M_m_exactRank.2.1 71 = .ok (.iconst 0, 1) := by decide +kernel
theorem d_m_exactRank_72 : decode M_m_exactRank.2.1 72 = .ok (.iadd, 1) := by decide +kernel
theorem d_m_exactRank_73 : decode M_m_exactRank.2.1 73 = .ok (.istore_n 2, 1) := by decide +kernel
theorem d_m_exactRank_74 : decode M_m_exactRank.2.1 74 = .ok (.iinc 3 1, 3) := by decide +kernel
theorem d_m_exactRank_77 : decode M_m_exactRank.2.1 77 = .ok (.goto (-73), 3) := by decide +kernel
theorem d_m_exactRank_80 : decode M_m_exactRank.2.1 80 = .ok (.iload_n 2, 1) := by decide +kernel
theorem d_m_exactRank_81 : decode M_m_exactRank.2.1 81 = .ok (.ireturn, 1) := by decide +kernel
theorem d_m_hit_0 : decode M_m_hit.2.1 0 = .ok (.iload_n 1, 1) := by decide +kernel
theorem d_m_hit_1 : decode M_m_hit.2.1 1 = .ok (.iconst 0, 1) := by decide +kernel
theorem d_m_hit_2 : decode M_m_hit.2.1 2 = .ok (.aload_n 0, 1) := by decide +kernel
theorem d_m_hit_3 : decode M_m_hit.2.1 3 = .ok (.getfield 191, 3) := by decide +kernel
theorem d_m_hit_6 : decode M_m_hit.2.1 6 = .ok (.iconst 1, 1) := by decide +kernel
theorem d_m_hit_7 : decode M_m_hit.2.1 7 = .ok (.isub, 1) := by decide +kernel
theorem d_m_hit_8 : decode M_m_hit.2.1 8 = .ok (.invokestatic 85, 3) := by decide +kernel
theorem d_m_hit_11 : decode M_m_hit.2.1 11 = .ok (.ifCond .eq 12, 3) := by decide +kernel
theorem d_m_hit_14 : decode M_m_hit.2.1 14 = .ok (.aload_n 0, 1) := by decide +kernel
theorem d_m_hit_15 : decode M_m_hit.2.1 15 = .ok (.getfield 29, 3) := by decide +kernel
theorem d_m_hit_18 : decode M_m_hit.2.1 18 = .ok (.iload_n 1, 1) := by decide +kernel
theorem d_m_hit_19 : decode M_m_hit.2.1 19 = .ok (.iaload, 1) := by decide +kernel
theorem d_m_hit_20 : decode M_m_hit.2.1 20 = .ok (.goto 4, 3) := by decide +kernel
theorem d_m_hit_23 : decode M_m_hit.2.1 23 = .ok (.iconst (-1), 1) := by decide +kernel
theorem d_m_hit_24 : decode M_m_hit.2.1 24 = .ok (.ireturn, 1) := by decide +kernel
theorem d_m_far_0 : decode M_m_far.2.1 0 = .ok (.iload_n 1, 1) := by decide +kernel
theorem d_m_far_1 : decode M_m_far.2.1 1 = .ok (.iconst 0, 1) := by decide +kernel
theorem d_m_far_2 : decode M_m_far.2.1 2 = .ok (.aload_n 0, 1) := by decide +kernel
theorem d_m_far_3 : decode M_m_far.2.1 3 = .ok (.getfield 191, 3) := by decide +kernel
theorem d_m_far_6 : decode M_m_far.2.1 6 = .ok (.iconst 1, 1) := by decide +kernel
theorem d_m_far_7 : decode M_m_far.2.1 7 = .ok (.isub, 1) := by decide +kernel
theorem d_m_far_8 : decode M_m_far.2.1 8 = .ok (.invokestatic 85, 3) := by decide +kernel
theorem d_m_far_11 : decode M_m_far.2.1 11 = .ok (.ifCond .eq 12, 3) := by decide +kernel
theorem d_m_far_14 : decode M_m_far.2.1 14 = .ok (.aload_n 0, 1) := by decide +kernel
theorem d_m_far_15 : decode M_m_far.2.1 15 = .ok (.getfield 32, 3) := by decide +kernel
theorem d_m_far_18 : decode M_m_far.2.1 18 = .ok (.iload_n 1, 1) := by decide +kernel
theorem d_m_far_19 : decode M_m_far.2.1 19 = .ok (.iaload, 1) := by decide +kernel
theorem d_m_far_20 : decode M_m_far.2.1 20 = .ok (.goto 4, 3) := by decide +kernel
theorem d_m_far_23 : decode M_m_far.2.1 23 = .ok (.iconst (-1), 1) := by decide +kernel
theorem d_m_far_24 : decode M_m_far.2.1 24 = .ok (.ireturn, 1) := by decide +kernel
theorem d_m_scanned_0 : decode M_m_scanned.2.1 0 = .ok (.aload_n 0, 1) := by decide +kernel
theorem d_m_scanned_1 : decode M_m_scanned.2.1 1 = .ok (.getfield 185, 3) := by decide +kernel
theorem d_m_scanned_4 : decode M_m_scanned.2.1 4 = .ok (.ireturn, 1) := by decide +kernel
theorem d_m_save_0 : decode M_m_save.2.1 0 = .ok (.aload_n 0, 1) := by decide +kernel
theorem d_m_save_1 : decode M_m_save.2.1 1 = .ok (.getfield 92, 3) := by decide +kernel
theorem d_m_save_4 : decode M_m_save.2.1 4 = .ok (.ifCond .ne 5, 3) := by decide +kernel
theorem d_m_save_7 : decode M_m_save.2.1 7 = .ok (.iconst (-1), 1) := by decide +kernel
theorem d_m_save_8 : decode M_m_save.2.1 8 = .ok (.ireturn, 1) := by decide +kernel
theorem d_m_save_9 : decode M_m_save.2.1 9 = .ok (.aload_n 0, 1) := by decide +kernel
theorem d_m_save_10 : decode M_m_save.2.1 10 = .ok (.iconst 0, 1) := by decide +kernel
theorem d_m_save_11 : decode M_m_save.2.1 11 = .ok (.putfield 203, 3) := by decide +kernel
theorem d_m_save_14 : decode M_m_save.2.1 14 = .ok (.aload_n 0, 1) := by decide +kernel
theorem d_m_save_15 : decode M_m_save.2.1 15 = .ok (.bipush 86, 2) := by decide +kernel
theorem d_m_save_17 : decode M_m_save.2.1 17 = .ok (.invokevirtual 206, 3) := by decide +kernel
theorem d_m_save_20 : decode M_m_save.2.1 20 = .ok (.aload_n 0, 1) := by decide +kernel
theorem d_m_save_21 : decode M_m_save.2.1 21 = .ok (.iconst 1, 1) := by decide +kernel
theorem d_m_save_22 : decode M_m_save.2.1 22 = .ok (.invokevirtual 206, 3) := by decide +kernel
theorem d_m_save_25 : decode M_m_save.2.1 25 = .ok (.aload_n 0, 1) := by decide +kernel
theorem d_m_save_26 : decode M_m_save.2.1 26 = .ok (.aload_n 0, 1) := by decide +kernel
theorem d_m_save_27 : decode M_m_save.2.1 27 = .ok (.getfield 128, 3) := by decide +kernel
theorem d_m_save_30 : decode M_m_save.2.1 30 = .ok (.invokevirtual 206, 3) := by decide +kernel
theorem d_m_save_33 : decode M_m_save.2.1 33 = .ok (.aload_n 0, 1) := by decide +kernel
theorem d_m_save_34 : decode M_m_save.2.1 34 = .ok (.aload_n 0, 1) := by decide +kernel
theorem d_m_save_35 : decode M_m_save.2.1 35 = .ok (.getfield 134, 3) := by decide +kernel
theorem d_m_save_38 : decode M_m_save.2.1 38 = .ok (.invokevirtual 206, 3) := by decide +kernel
theorem d_m_save_41 : decode M_m_save.2.1 41 = .ok (.aload_n 0, 1) := by decide +kernel
theorem d_m_save_42 : decode M_m_save.2.1 42 = .ok (.aload_n 0, 1) := by decide +kernel
theorem d_m_save_43 : decode M_m_save.2.1 43 = .ok (.getfield 137, 3) := by decide +kernel
theorem d_m_save_46 : decode M_m_save.2.1 46 = .ok (.invokevirtual 206, 3) := by decide +kernel
theorem d_m_save_49 : decode M_m_save.2.1 49 = .ok (.aload_n 0, 1) := by decide +kernel
theorem d_m_save_50 : decode M_m_save.2.1 50 = .ok (.aload_n 0, 1) := by decide +kernel
theorem d_m_save_51 : decode M_m_save.2.1 51 = .ok (.getfield 131, 3) := by decide +kernel
theorem d_m_save_54 : decode M_m_save.2.1 54 = .ok (.invokevirtual 206, 3) := by decide +kernel
theorem d_m_save_57 : decode M_m_save.2.1 57 = .ok (.iconst 0, 1) := by decide +kernel
theorem d_m_save_58 : decode M_m_save.2.1 58 = .ok (.istore_n 1, 1) := by decide +kernel
theorem d_m_save_59 : decode M_m_save.2.1 59 = .ok (.iload_n 1, 1) := by decide +kernel
theorem d_m_save_60 : decode M_m_save.2.1 60 = .ok (.iconst 4, 1) := by decide +kernel
theorem d_m_save_61 : decode M_m_save.2.1 61 = .ok (.if_icmp .ge 21, 3) := by decide +kernel
theorem d_m_save_64 : decode M_m_save.2.1 64 = .ok (.aload_n 0, 1) := by decide +kernel
theorem d_m_save_65 : decode M_m_save.2.1 65 = .ok (.aload_n 0, 1) := by decide +kernel
theorem d_m_save_66 : decode M_m_save.2.1 66 = .ok (.getfield 7, 3) := by decide +kernel
theorem d_m_save_69 : decode M_m_save.2.1 69 = .ok (.iload_n 1, 1) := by decide +kernel
theorem d_m_save_70 : decode M_m_save.2.1 70 = .ok (.iaload, 1) := by decide +kernel
theorem d_m_save_71 : decode M_m_save.2.1 71 = .ok (.iconst 4, 1) := by decide +kernel
theorem d_m_save_72 : decode M_m_save.2.1 72 = .ok (.iadd, 1) := by decide +kernel
theorem d_m_save_73 : decode M_m_save.2.1 73 = .ok (.invokevirtual 206, 3) := by decide +kernel
theorem d_m_save_76 : decode M_m_save.2.1 76 = .ok (.iinc 1 1, 3) := by decide +kernel
theorem d_m_save_79 : decode M_m_save.2.1 79 = .ok (.goto (-20), 3) := by decide +kernel
theorem d_m_save_82 : decode M_m_save.2.1 82 = .ok (.iconst 0, 1) := by decide +kernel
theorem d_m_save_83 : decode M_m_save.2.1 83 = .ok (.istore_n 1, 1) := by decide +kernel
theorem d_m_save_84 : decode M_m_save.2.1 84 = .ok (.iload_n 1, 1) := by decide +kernel
theorem d_m_save_85 : decode M_m_save.2.1 85 = .ok (.iconst 4, 1) := by decide +kernel
theorem d_m_save_86 : decode M_m_save.2.1 86 = .ok (.aload_n 0, 1) := by decide +kernel
theorem d_m_save_87 : decode M_m_save.2.1 87 = .ok (.getfield 134, 3) := by decide +kernel
theorem d_m_save_90 : decode M_m_save.2.1 90 = .ok (.imul, 1) := by decide +kernel
theorem d_m_save_91 : decode M_m_save.2.1 91 = .ok (.if_icmp .ge 23, 3) := by decide +kernel
theorem d_m_save_94 : decode M_m_save.2.1 94 = .ok (.aload_n 0, 1) := by decide +kernel
theorem d_m_save_95 : decode M_m_save.2.1 95 = .ok (.aload_n 0, 1) := by decide +kernel
theorem d_m_save_96 : decode M_m_save.2.1 96 = .ok (.getfield 16, 3) := by decide +kernel
theorem d_m_save_99 : decode M_m_save.2.1 99 = .ok (.iload_n 1, 1) := by decide +kernel
theorem d_m_save_100 : decode M_m_save.2.1 100 = .ok (.iaload, 1) := by decide +kernel
theorem d_m_save_101 : decode M_m_save.2.1 101 = .ok (.sipush 300, 3) := by decide +kernel
theorem d_m_save_104 : decode M_m_save.2.1 104 = .ok (.iadd, 1) := by decide +kernel
theorem d_m_save_105 : decode M_m_save.2.1 105 = .ok (.invokevirtual 209, 3) := by decide +kernel
theorem d_m_save_108 : decode M_m_save.2.1 108 = .ok (.iinc 1 1, 3) := by decide +kernel
theorem d_m_save_111 : decode M_m_save.2.1 111 = .ok (.goto (-27), 3) := by decide +kernel
theorem d_m_save_114 : decode M_m_save.2.1 114 = .ok (.iconst 0, 1) := by decide +kernel
theorem d_m_save_115 : decode M_m_save.2.1 115 = .ok (.istore_n 1, 1) := by decide +kernel
theorem d_m_save_116 : decode M_m_save.2.1 116 = .ok (.iload_n 1, 1) := by decide +kernel
theorem d_m_save_117 : decode M_m_save.2.1 117 = .ok (.aload_n 0, 1) := by decide +kernel
theorem d_m_save_118 : decode M_m_save.2.1 118 = .ok (.invokevirtual 144, 3) := by decide +kernel
theorem d_m_save_121 : decode M_m_save.2.1 121 = .ok (.aload_n 0, 1) := by decide +kernel
theorem d_m_save_122 : decode M_m_save.2.1 122 = .ok (.getfield 137, 3) := by decide +kernel
theorem d_m_save_125 : decode M_m_save.2.1 125 = .ok (.imul, 1) := by decide +kernel
theorem d_m_save_126 : decode M_m_save.2.1 126 = .ok (.aload_n 0, 1) := by decide +kernel
theorem d_m_save_127 : decode M_m_save.2.1 127 = .ok (.invokevirtual 164, 3) := by decide +kernel
theorem d_m_save_130 : decode M_m_save.2.1 130 = .ok (.imul, 1) := by decide +kernel
theorem d_m_save_131 : decode M_m_save.2.1 131 = .ok (.if_icmp .ge 66, 3) := by decide +kernel
theorem d_m_save_134 : decode M_m_save.2.1 134 = .ok (.iload_n 1, 1) := by decide +kernel
theorem d_m_save_135 : decode M_m_save.2.1 135 = .ok (.aload_n 0, 1) := by decide +kernel
theorem d_m_save_136 : decode M_m_save.2.1 136 = .ok (.getfield 137, 3) := by decide +kernel
theorem d_m_save_139 : decode M_m_save.2.1 139 = .ok (.aload_n 0, 1) := by decide +kernel
theorem d_m_save_140 : decode M_m_save.2.1 140 = .ok (.invokevirtual 164, 3) := by decide +kernel
theorem d_m_save_143 : decode M_m_save.2.1 143 = .ok (.imul, 1) := by decide +kernel
theorem d_m_save_144 : decode M_m_save.2.1 144 = .ok (.idiv, 1) := by decide +kernel
theorem d_m_save_145 : decode M_m_save.2.1 145 = .ok (.istore_n 2, 1) := by decide +kernel
theorem d_m_save_146 : decode M_m_save.2.1 146 = .ok (.iload_n 1, 1) := by decide +kernel
theorem d_m_save_147 : decode M_m_save.2.1 147 = .ok (.aload_n 0, 1) := by decide +kernel
theorem d_m_save_148 : decode M_m_save.2.1 148 = .ok (.getfield 137, 3) := by decide +kernel
theorem d_m_save_151 : decode M_m_save.2.1 151 = .ok (.aload_n 0, 1) := by decide +kernel
theorem d_m_save_152 : decode M_m_save.2.1 152 = .ok (.invokevirtual 164, 3) := by decide +kernel
theorem d_m_save_155 : decode M_m_save.2.1 155 = .ok (.imul, 1) := by decide +kernel
theorem d_m_save_156 : decode M_m_save.2.1 156 = .ok (.irem, 1) := by decide +kernel
theorem d_m_save_157 : decode M_m_save.2.1 157 = .ok (.istore_n 3, 1) := by decide +kernel
theorem d_m_save_158 : decode M_m_save.2.1 158 = .ok (.aload_n 0, 1) := by decide +kernel
theorem d_m_save_159 : decode M_m_save.2.1 159 = .ok (.aload_n 0, 1) := by decide +kernel
theorem d_m_save_160 : decode M_m_save.2.1 160 = .ok (.getfield 19, 3) := by decide +kernel
theorem d_m_save_163 : decode M_m_save.2.1 163 = .ok (.bipush 8, 2) := by decide +kernel
theorem d_m_save_165 : decode M_m_save.2.1 165 = .ok (.iload_n 2, 1) := by decide +kernel
theorem d_m_save_166 : decode M_m_save.2.1 166 = .ok (.imul, 1) := by decide +kernel
theorem d_m_save_167 : decode M_m_save.2.1 167 = .ok (.iconst 2, 1) := by decide +kernel
theorem d_m_save_168 : decode M_m_save.2.1 168 = .ok (.iload_n 3, 1) := by decide +kernel
theorem d_m_save_169 : decode M_m_save.2.1 169 = .ok (.aload_n 0, 1) := by decide +kernel
theorem d_m_save_170 : decode M_m_save.2.1 170 = .ok (.invokevirtual 164, 3) := by decide +kernel
theorem d_m_save_173 : decode M_m_save.2.1 173 = .ok (.idiv, 1) := by decide +kernel
theorem d_m_save_174 : decode M_m_save.2.1 174 = .ok (.imul, 1) := by decide +kernel
theorem d_m_save_175 : decode M_m_save.2.1 175 = .ok (.iadd, 1) := by decide +kernel
theorem d_m_save_176 : decode M_m_save.2.1 176 = .ok (.iload_n 3, 1) := by decide +kernel
theorem d_m_save_177 : decode M_m_save.2.1 177 = .ok (.aload_n 0, 1) := by decide +kernel
theorem d_m_save_178 : decode M_m_save.2.1 178 = .ok (.invokevirtual 164, 3) := by decide +kernel
theorem d_m_save_181 : decode M_m_save.2.1 181 = .ok (.irem, 1) := by decide +kernel
theorem d_m_save_182 : decode M_m_save.2.1 182 = .ok (.iadd, 1) := by decide +kernel
theorem d_m_save_183 : decode M_m_save.2.1 183 = .ok (.iaload, 1) := by decide +kernel
theorem d_m_save_184 : decode M_m_save.2.1 184 = .ok (.sipush 300, 3) := by decide +kernel
theorem d_m_save_187 : decode M_m_save.2.1 187 = .ok (.iadd, 1) := by decide +kernel
theorem d_m_save_188 : decode M_m_save.2.1 188 = .ok (.invokevirtual 209, 3) := by decide +kernel
theorem d_m_save_191 : decode M_m_save.2.1 191 = .ok (.iinc 1 1, 3) := by decide +kernel
theorem d_m_save_194 : decode M_m_save.2.1 194 = .ok (.goto (-78), 3) := by decide +kernel
theorem d_m_save_197 : decode M_m_save.2.1 197 = .ok (.iconst 0, 1) := by decide +kernel
theorem d_m_save_198 : decode M_m_save.2.1 198 = .ok (.istore_n 1, 1) := by decide +kernel
theorem d_m_save_199 : decode M_m_save.2.1 199 = .ok (.iload_n 1, 1) := by decide +kernel
theorem d_m_save_200 : decode M_m_save.2.1 200 = .ok (.sipush 1000, 3) := by decide +kernel
theorem d_m_save_203 : decode M_m_save.2.1 203 = .ok (.if_icmp .ge 53, 3) := by decide +kernel
theorem d_m_save_206 : decode M_m_save.2.1 206 = .ok (.aload_n 0, 1) := by decide +kernel
theorem d_m_save_207 : decode M_m_save.2.1 207 = .ok (.getfield 22, 3) := by decide +kernel
theorem d_m_save_210 : decode M_m_save.2.1 210 = .ok (.iload_n 1, 1) := by decide +kernel
theorem d_m_save_211 : decode M_m_save.2.1 211 = .ok (.baload, 1) := by decide +kernel
theorem d_m_save_212 : decode M_m_save.2.1 212 = .ok (.ifCond .eq 38, 3) := by decide +kernel
theorem d_m_save_215 : decode M_m_save.2.1 215 = .ok (.aload_n 0, 1) := by decide +kernel
theorem d_m_save_216 : decode M_m_save.2.1 216 = .ok (.iload_n 1, 1) := by decide +kernel
theorem d_m_save_217 : decode M_m_save.2.1 217 = .ok (.invokevirtual 209, 3) := by decide +kernel
theorem d_m_save_220 : decode M_m_save.2.1 220 = .ok (.iconst 0, 1) := by decide +kernel
theorem d_m_save_221 : decode M_m_save.2.1 221 = .ok (.istore_n 2, 1) := by decide +kernel
theorem d_m_save_222 : decode M_m_save.2.1 222 = .ok (.iload_n 2, 1) := by decide +kernel
theorem d_m_save_223 : decode M_m_save.2.1 223 = .ok (.iconst 4, 1) := by decide +kernel
theorem d_m_save_224 : decode M_m_save.2.1 224 = .ok (.if_icmp .ge 26, 3) := by decide +kernel
theorem d_m_save_227 : decode M_m_save.2.1 227 = .ok (.aload_n 0, 1) := by decide +kernel
theorem d_m_save_228 : decode M_m_save.2.1 228 = .ok (.aload_n 0, 1) := by decide +kernel
theorem d_m_save_229 : decode M_m_save.2.1 229 = .ok (.getfield 26, 3) := by decide +kernel
theorem d_m_save_232 : decode M_m_save.2.1 232 = .ok (.iconst 4, 1) := by decide +kernel
theorem d_m_save_233 : decode M_m_save.2.1 233 = .ok (.iload_n 1, 1) := by decide +kernel
theorem d_m_save_234 : decode M_m_save.2.1 234 = .ok (.imul, 1) := by decide +kernel
theorem d_m_save_235 : decode M_m_save.2.1 235 = .ok (.iload_n 2, 1) := by decide +kernel
theorem d_m_save_236 : decode M_m_save.2.1 236 = .ok (.iadd, 1) := by decide +kernel
theorem d_m_save_237 : decode M_m_save.2.1 237 = .ok (.iaload, 1) := by decide +kernel
theorem d_m_save_238 : decode M_m_save.2.1 238 = .ok (.bipush 100, 2) := by decide +kernel
theorem d_m_save_240 : decode M_m_save.2.1 240 = .ok (.iadd, 1) := by decide +kernel
theorem d_m_save_241 : decode M_m_save.2.1 241 = .ok (.invokevirtual 206, 3) := by decide +kernel
theorem d_m_save_244 : decode M_m_save.2.1 244 = .ok (.iinc 2 1, 3) := by decide +kernel
theorem d_m_save_247 : decode M_m_save.2.1 247 = .ok (.goto (-25), 3) := by decide +kernel
theorem d_m_save_250 : decode M_m_save.2.1 250 = .ok (.iinc 1 1, 3) := by decide +kernel
theorem d_m_save_253 : decode M_m_save.2.1 253 = .ok (.goto (-54), 3) := by decide +kernel
theorem d_m_save_256 : decode M_m_save.2.1 256 = .ok (.aload_n 0, 1) := by decide +kernel
theorem d_m_save_257 : decode M_m_save.2.1 257 = .ok (.aload_n 0, 1) := by decide +kernel
theorem d_m_save_258 : decode M_m_save.2.1 258 = .ok (.getfield 203, 3) := by decide +kernel
theorem d_m_save_261 : decode M_m_save.2.1 261 = .ok (.invokevirtual 212, 3) := by decide +kernel
theorem d_m_save_264 : decode M_m_save.2.1 264 = .ok (.istore_n 1, 1) := by decide +kernel
theorem d_m_save_265 : decode M_m_save.2.1 265 = .ok (.aload_n 0, 1) := by decide +kernel
theorem d_m_save_266 : decode M_m_save.2.1 266 = .ok (.iload_n 1, 1) := by decide +kernel
theorem d_m_save_267 : decode M_m_save.2.1 267 = .ok (.invokevirtual 206, 3) := by decide +kernel
theorem d_m_save_270 : decode M_m_save.2.1 270 = .ok (.aload_n 0, 1) := by decide +kernel
theorem d_m_save_271 : decode M_m_save.2.1 271 = .ok (.getfield 203, 3) := by decide +kernel
theorem d_m_save_274 : decode M_m_save.2.1 274 = .ok (.ireturn, 1) := by decide +kernel
theorem d_m_put_0 : decode M_m_put.2.1 0 = .ok (.aload_n 0, 1) := by decide +kernel
theorem d_m_put_1 : decode M_m_put.2.1 1 = .ok (.getfield 35, 3) := by decide +kernel
theorem d_m_put_4 : decode M_m_put.2.1 4 = .ok (.aload_n 0, 1) := by decide +kernel
theorem d_m_put_5 : decode M_m_put.2.1 5 = .ok (.getfield 203, 3) := by decide +kernel
theorem d_m_put_8 : decode M_m_put.2.1 8 = .ok (.iload_n 1, 1) := by decide +kernel
theorem d_m_put_9 : decode M_m_put.2.1 9 = .ok (.iastore, 1) := by decide +kernel
theorem d_m_put_10 : decode M_m_put.2.1 10 = .ok (.aload_n 0, 1) := by decide +kernel
theorem d_m_put_11 : decode M_m_put.2.1 11 = .ok (.dup, 1) := by decide +kernel
theorem d_m_put_12 : decode M_m_put.2.1 12 = .ok (.getfield 203, 3) := by decide +kernel
theorem d_m_put_15 : decode M_m_put.2.1 15 = .ok (.iconst 1, 1) := by decide +kernel
theorem d_m_put_16 : decode M_m_put.2.1 16 = .ok (.iadd, 1) := by decide +kernel
theorem d_m_put_17 : decode M_m_put.2.1 17 = .ok (.putfield 203, 3) := by decide +kernel
theorem d_m_put_20 : decode M_m_put.2.1 20 = .ok (.return_, 1) := by decide +kernel
theorem d_m_putTwo_0 : decode M_m_putTwo.2.1 0 = .ok (.aload_n 0, 1) := by decide +kernel
theorem d_m_putTwo_1 : decode M_m_putTwo.2.1 1 = .ok (.iload_n 1, 1) := by decide +kernel
theorem d_m_putTwo_2 : decode M_m_putTwo.2.1 2 = .ok (.sipush 256, 3) := by decide +kernel
theorem d_m_putTwo_5 : decode M_m_putTwo.2.1 5 = .ok (.idiv, 1) := by decide +kernel
theorem d_m_putTwo_6 : decode M_m_putTwo.2.1 6 = .ok (.invokevirtual 206, 3) := by decide +kernel
theorem d_m_putTwo_9 : decode M_m_putTwo.2.1 9 = .ok (.aload_n 0, 1) := by decide +kernel
theorem d_m_putTwo_10 : decode M_m_putTwo.2.1 10 = .ok (.iload_n 1, 1) := by decide +kernel
theorem d_m_putTwo_11 : decode M_m_putTwo.2.1 11 = .ok (.sipush 256, 3) := by decide +kernel
theorem d_m_putTwo_14 : decode M_m_putTwo.2.1 14 = .ok (.irem, 1) := by decide +kernel
theorem d_m_putTwo_15 : decode M_m_putTwo.2.1 15 = .ok (.invokevirtual 206, 3) := by decide +kernel
theorem d_m_putTwo_18 : decode M_m_putTwo.2.1 18 = .ok (.return_, 1) := by decide +kernel
theorem d_m_sum_0 : decode M_m_sum.2.1 0 = .ok (.iconst 0, 1) := by decide +kernel
theorem d_m_sum_1 : decode M_m_sum.2.1 1 = .ok (.istore_n 2, 1) := by decide +kernel
theorem d_m_sum_2 : decode M_m_sum.2.1 2 = .ok (.iconst 0, 1) := by decide +kernel
theorem d_m_sum_3 : decode M_m_sum.2.1 3 = .ok (.istore_n 3, 1) := by decide +kernel
theorem d_m_sum_4 : decode M_m_sum.2.1 4 = .ok (.iload_n 3, 1) := by decide +kernel
theorem d_m_sum_5 : decode M_m_sum.2.1 5 = .ok (.iload_n 1, 1) := by decide +kernel
theorem d_m_sum_6 : decode M_m_sum.2.1 6 = .ok (.if_icmp .ge 26, 3) := by decide +kernel
theorem d_m_sum_9 : decode M_m_sum.2.1 9 = .ok (.iload_n 2, 1) := by decide +kernel
theorem d_m_sum_10 : decode M_m_sum.2.1 10 = .ok (.aload_n 0, 1) := by decide +kernel
theorem d_m_sum_11 : decode M_m_sum.2.1 11 = .ok (.getfield 35, 3) := by decide +kernel
theorem d_m_sum_14 : decode M_m_sum.2.1 14 = .ok (.iload_n 3, 1) := by decide +kernel
theorem d_m_sum_15 : decode M_m_sum.2.1 15 = .ok (.iaload, 1) := by decide +kernel
theorem d_m_sum_16 : decode M_m_sum.2.1 16 = .ok (.iload_n 3, 1) := by decide +kernel
theorem d_m_sum_17 : decode M_m_sum.2.1 17 = .ok (.iconst 1, 1) := by decide +kernel
theorem d_m_sum_18 : decode M_m_sum.2.1 18 = .ok (.iadd, 1) := by decide +kernel
theorem d_m_sum_19 : decode M_m_sum.2.1 19 = .ok (.imul, 1) := by decide +kernel
theorem d_m_sum_20 : decode M_m_sum.2.1 20 = .ok (.iadd, 1) := by decide +kernel
theorem d_m_sum_21 : decode M_m_sum.2.1 21 = .ok (.sipush 251, 3) := by decide +kernel
theorem d_m_sum_24 : decode M_m_sum.2.1 24 = .ok (.irem, 1) := by decide +kernel
theorem d_m_sum_25 : decode M_m_sum.2.1 25 = .ok (.istore_n 2, 1) := by decide +kernel
theorem d_m_sum_26 : decode M_m_sum.2.1 26 = .ok (.iinc 3 1, 3) := by decide +kernel
theorem d_m_sum_29 : decode M_m_sum.2.1 29 = .ok (.goto (-25), 3) := by decide +kernel
theorem d_m_sum_32 : decode M_m_sum.2.1 32 = .ok (.iload_n 2, 1) := by decide +kernel
theorem d_m_sum_33 : decode M_m_sum.2.1 33 = .ok (.ireturn, 1) := by decide +kernel
theorem d_m_alter_0 : decode M_m_alter.2.1 0 = .ok (.iload_n 1, 1) := by decide +kernel
theorem d_m_alter_1 : decode M_m_alter.2.1 1 = .ok (.iconst 0, 1) := by decide +kernel
theorem d_m_alter_2 : decode M_m_alter.2.1 2 = .ok (.aload_n 0, 1) := by decide +kernel
theorem d_m_alter_3 : decode M_m_alter.2.1 3 = .ok (.getfield 203, 3) := by decide +kernel
theorem d_m_alter_6 : decode M_m_alter.2.1 6 = .ok (.invokestatic 85, 3) := by decide +kernel
theorem d_m_alter_9 : decode M_m_alter.2.1 9 = .ok (.ifCond .eq 21, 3) := by decide +kernel
theorem d_m_alter_12 : decode M_m_alter.2.1 12 = .ok (.iload_n 1, 1) := by decide +kernel
theorem d_m_alter_13 : decode M_m_alter.2.1 13 = .ok (.sipush 250, 3) := by decide +kernel
theorem d_m_alter_16 : decode M_m_alter.2.1 16 = .ok (.if_icmp .eq 14, 3) := by decide +kernel
theorem d_m_alter_19 : decode M_m_alter.2.1 19 = .ok (.iload_n 2, 1) := by decide +kernel
theorem d_m_alter_20 : decode M_m_alter.2.1 20 = .ok (.iconst 0, 1) := by decide +kernel
theorem d_m_alter_21 : decode M_m_alter.2.1 21 = .ok (.sipush 255, 3) := by decide +kernel
theorem d_m_alter_24 : decode M_m_alter.2.1 24 = .ok (.invokestatic 85, 3) := by decide +kernel
theorem d_m_alter_27 : decode M_m_alter.2.1 27 = .ok (.ifCond .ne 5, 3) := by decide +kernel
theorem d_m_alter_30 : decode M_m_alter.2.1 30 = .ok (.iconst 0, 1) := by decide +kernel
theorem d_m_alter_31 : decode M_m_alter.2.1 31 = .ok (.ireturn, 1) := by decide +kernel
theorem d_m_alter_32 : decode M_m_alter.2.1 32 = .ok (.aload_n 0, 1) := by decide +kernel
theorem d_m_alter_33 : decode M_m_alter.2.1 33 = .ok (.getfield 35, 3) := by decide +kernel
theorem d_m_alter_36 : decode M_m_alter.2.1 36 = .ok (.iload_n 1, 1) := by decide +kernel
theorem d_m_alter_37 : decode M_m_alter.2.1 37 = .ok (.iload_n 2, 1) := by decide +kernel
theorem d_m_alter_38 : decode M_m_alter.2.1 38 = .ok (.iastore, 1) := by decide +kernel
theorem d_m_alter_39 : decode M_m_alter.2.1 39 = .ok (.aload_n 0, 1) := by decide +kernel
theorem d_m_alter_40 : decode M_m_alter.2.1 40 = .ok (.iload_n 1, 1) := by decide +kernel
theorem d_m_alter_41 : decode M_m_alter.2.1 41 = .ok (.aload_n 0, 1) := by decide +kernel
theorem d_m_alter_42 : decode M_m_alter.2.1 42 = .ok (.getfield 203, 3) := by decide +kernel
theorem d_m_alter_45 : decode M_m_alter.2.1 45 = .ok (.if_icmp .ne 12, 3) := by decide +kernel
theorem d_m_alter_48 : decode M_m_alter.2.1 48 = .ok (.aload_n 0, 1) := by decide +kernel
theorem d_m_alter_49 : decode M_m_alter.2.1 49 = .ok (.getfield 203, 3) := by decide +kernel
theorem d_m_alter_52 : decode M_m_alter.2.1 52 = .ok (.iconst 1, 1) := by decide +kernel
theorem d_m_alter_53 : decode M_m_alter.2.1 53 = .ok (.iadd, 1) := by decide +kernel
theorem d_m_alter_54 : decode M_m_alter.2.1 54 = .ok (.goto 7, 3) := by decide +kernel
theorem d_m_alter_57 : decode M_m_alter.2.1 57 = .ok (.aload_n 0, 1) := by decide +kernel
theorem d_m_alter_58 : decode M_m_alter.2.1 58 = .ok (.getfield 203, 3) := by decide +kernel
theorem d_m_alter_61 : decode M_m_alter.2.1 61 = .ok (.putfield 203, 3) := by decide +kernel
theorem d_m_alter_64 : decode M_m_alter.2.1 64 = .ok (.iconst 1, 1) := by decide +kernel
theorem d_m_alter_65 : decode M_m_alter.2.1 65 = .ok (.ireturn, 1) := by decide +kernel
theorem d_m_cut_0 : decode M_m_cut.2.1 0 = .ok (.iload_n 1, 1) := by decide +kernel
theorem d_m_cut_1 : decode M_m_cut.2.1 1 = .ok (.iconst 0, 1) := by decide +kernel
theorem d_m_cut_2 : decode M_m_cut.2.1 2 = .ok (.aload_n 0, 1) := by decide +kernel
theorem d_m_cut_3 : decode M_m_cut.2.1 3 = .ok (.getfield 203, 3) := by decide +kernel
theorem d_m_cut_6 : decode M_m_cut.2.1 6 = .ok (.invokestatic 85, 3) := by decide +kernel
theorem d_m_cut_9 : decode M_m_cut.2.1 9 = .ok (.ifCond .ne 5, 3) := by decide +kernel
theorem d_m_cut_12 : decode M_m_cut.2.1 12 = .ok (.iconst 0, 1) := by decide +kernel
theorem d_m_cut_13 : decode M_m_cut.2.1 13 = .ok (.ireturn, 1) := by decide +kernel
theorem d_m_cut_14 : decode M_m_cut.2.1 14 = .ok (.aload_n 0, 1) := by decide +kernel
theorem d_m_cut_15 : decode M_m_cut.2.1 15 = .ok (.iload_n 1, 1) := by decide +kernel
theorem d_m_cut_16 : decode M_m_cut.2.1 16 = .ok (.putfield 203, 3) := by decide +kernel
theorem d_m_cut_19 : decode M_m_cut.2.1 19 = .ok (.iconst 1, 1) := by decide +kernel
theorem d_m_cut_20 : decode M_m_cut.2.1 20 = .ok (.ireturn, 1) := by decide +kernel
theorem d_m_byteAt_0 : decode M_m_byteAt.2.1 0 = .ok (.iload_n 1, 1) := by decide +kernel
theorem d_m_byteAt_1 : decode M_m_byteAt.2.1 1 = .ok (.iconst 0, 1) := by decide +kernel
theorem d_m_byteAt_2 : decode M_m_byteAt.2.1 2 = .ok (.aload_n 0, 1) := by decide +kernel
theorem d_m_byteAt_3 : decode M_m_byteAt.2.1 3 = .ok (.getfield 203, 3) := by decide +kernel
theorem d_m_byteAt_6 : decode M_m_byteAt.2.1 6 = .ok (.iconst 1, 1) := by decide +kernel
theorem d_m_byteAt_7 : decode M_m_byteAt.2.1 7 = .ok (.isub, 1) := by decide +kernel
theorem d_m_byteAt_8 : decode M_m_byteAt.2.1 8 = .ok (.invokestatic 85, 3) := by decide +kernel
theorem d_m_byteAt_11 : decode M_m_byteAt.2.1 11 = .ok (.ifCond .eq 12, 3) := by decide +kernel
theorem d_m_byteAt_14 : decode M_m_byteAt.2.1 14 = .ok (.aload_n 0, 1) := by decide +kernel
theorem d_m_byteAt_15 : decode M_m_byteAt.2.1 15 = .ok (.getfield 35, 3) := by decide +kernel
theorem d_m_byteAt_18 : decode M_m_byteAt.2.1 18 = .ok (.iload_n 1, 1) := by decide +kernel
theorem d_m_byteAt_19 : decode M_m_byteAt.2.1 19 = .ok (.iaload, 1) := by decide +kernel
theorem d_m_byteAt_20 : decode M_m_byteAt.2.1 20 = .ok (.goto 4, 3) := by decide +kernel
theorem d_m_byteAt_23 : decode M_m_byteAt.2.1 23 = .ok (.iconst (-1), 1) := by decide +kernel
theorem d_m_byteAt_24 : decode M_m_byteAt.2.1 24 = .ok (.ireturn, 1) := by decide +kernel
theorem d_m_load_0 : decode M_m_load.2.1 0 = .ok (.aload_n 0, 1) := by decide +kernel
theorem d_m_load_1 : decode M_m_load.2.1 1 = .ok (.invokevirtual 221, 3) := by decide +kernel
theorem d_m_load_4 : decode M_m_load.2.1 4 = .ok (.istore_n 1, 1) := by decide +kernel
theorem d_m_load_5 : decode M_m_load.2.1 5 = .ok (.iload_n 1, 1) := by decide +kernel
theorem d_m_load_6 : decode M_m_load.2.1 6 = .ok (.ifCond .le 5, 3) := by decide +kernel
theorem d_m_load_9 : decode M_m_load.2.1 9 = .ok (.iload_n 1, 1) := by decide +kernel
theorem d_m_load_10 : decode M_m_load.2.1 10 = .ok (.ireturn, 1) := by decide +kernel
theorem d_m_load_11 : decode M_m_load.2.1 11 = .ok (.aload_n 0, 1) := by decide +kernel
theorem d_m_load_12 : decode M_m_load.2.1 12 = .ok (.iconst 1, 1) := by decide +kernel
theorem d_m_load_13 : decode M_m_load.2.1 13 = .ok (.putfield 92, 3) := by decide +kernel
theorem d_m_load_16 : decode M_m_load.2.1 16 = .ok (.aload_n 0, 1) := by decide +kernel
theorem d_m_load_17 : decode M_m_load.2.1 17 = .ok (.aload_n 0, 1) := by decide +kernel
theorem d_m_load_18 : decode M_m_load.2.1 18 = .ok (.getfield 35, 3) := by decide +kernel
theorem d_m_load_21 : decode M_m_load.2.1 21 = .ok (.iconst 2, 1) := by decide +kernel
theorem d_m_load_22 : decode M_m_load.2.1 22 = .ok (.iaload, 1) := by decide +kernel
theorem d_m_load_23 : decode M_m_load.2.1 23 = .ok (.putfield 128, 3) := by decide +kernel
theorem d_m_load_26 : decode M_m_load.2.1 26 = .ok (.aload_n 0, 1) := by decide +kernel
theorem d_m_load_27 : decode M_m_load.2.1 27 = .ok (.aload_n 0, 1) := by decide +kernel
theorem d_m_load_28 : decode M_m_load.2.1 28 = .ok (.getfield 35, 3) := by decide +kernel
theorem d_m_load_31 : decode M_m_load.2.1 31 = .ok (.iconst 3, 1) := by decide +kernel
theorem d_m_load_32 : decode M_m_load.2.1 32 = .ok (.iaload, 1) := by decide +kernel
theorem d_m_load_33 : decode M_m_load.2.1 33 = .ok (.putfield 134, 3) := by decide +kernel
theorem d_m_load_36 : decode M_m_load.2.1 36 = .ok (.aload_n 0, 1) := by decide +kernel
theorem d_m_load_37 : decode M_m_load.2.1 37 = .ok (.aload_n 0, 1) := by decide +kernel
theorem d_m_load_38 : decode M_m_load.2.1 38 = .ok (.getfield 35, 3) := by decide +kernel
theorem d_m_load_41 : decode M_m_load.2.1 41 = .ok (.iconst 4, 1) := by decide +kernel
theorem d_m_load_42 : decode M_m_load.2.1 42 = .ok (.iaload, 1) := by decide +kernel
theorem d_m_load_43 : decode M_m_load.2.1 43 = .ok (.putfield 137, 3) := by decide +kernel
theorem d_m_load_46 : decode M_m_load.2.1 46 = .ok (.aload_n 0, 1) := by decide +kernel
theorem d_m_load_47 : decode M_m_load.2.1 47 = .ok (.aload_n 0, 1) := by decide +kernel
theorem d_m_load_48 : decode M_m_load.2.1 48 = .ok (.getfield 35, 3) := by decide +kernel
theorem d_m_load_51 : decode M_m_load.2.1 51 = .ok (.iconst 5, 1) := by decide +kernel
theorem d_m_load_52 : decode M_m_load.2.1 52 = .ok (.iaload, 1) := by decide +kernel
end
section
theorem d_m_load_53 : decode M_m_load.2.1 53 = .ok (.putfield 131, 3) := by decide +kernel
theorem d_m_load_56 : decode M_m_load.2.1 56 = .ok (.iconst 0, 1) := by decide +kernel
theorem d_m_load_57 : decode M_m_load.2.1 57 = .ok (.istore_n 2, 1) := by decide +kernel
theorem d_m_load_58 : decode M_m_load.2.1 58 = .ok (.iload_n 2, 1) := by decide +kernel
theorem d_m_load_59 : decode M_m_load.2.1 59 = .ok (.iconst 4, 1) := by decide +kernel
theorem d_m_load_60 : decode M_m_load.2.1 60 = .ok (.if_icmp .ge 26, 3) := by decide +kernel
theorem d_m_load_63 : decode M_m_load.2.1 63 = .ok (.aload_n 0, 1) := by decide +kernel
theorem d_m_load_64 : decode M_m_load.2.1 64 = .ok (.getfield 7, 3) := by decide +kernel
theorem d_m_load_67 : decode M_m_load.2.1 67 = .ok (.iload_n 2, 1) := by decide +kernel
theorem d_m_load_68 : decode M_m_load.2.1 68 = .ok (.aload_n 0, 1) := by decide +kernel
theorem d_m_load_69 : decode M_m_load.2.1 69 = .ok (.getfield 35, 3) := by decide +kernel
theorem d_m_load_72 : decode M_m_load.2.1 72 = .ok (.bipush 6, 2) := by decide +kernel
theorem d_m_load_74 : decode M_m_load.2.1 74 = .ok (.iload_n 2, 1) := by decide +kernel
theorem d_m_load_75 : decode M_m_load.2.1 75 = .ok (.iadd, 1) := by decide +kernel
theorem d_m_load_76 : decode M_m_load.2.1 76 = .ok (.iaload, 1) := by decide +kernel
theorem d_m_load_77 : decode M_m_load.2.1 77 = .ok (.iconst 4, 1) := by decide +kernel
theorem d_m_load_78 : decode M_m_load.2.1 78 = .ok (.isub, 1) := by decide +kernel
theorem d_m_load_79 : decode M_m_load.2.1 79 = .ok (.iastore, 1) := by decide +kernel
theorem d_m_load_80 : decode M_m_load.2.1 80 = .ok (.iinc 2 1, 3) := by decide +kernel
theorem d_m_load_83 : decode M_m_load.2.1 83 = .ok (.goto (-25), 3) := by decide +kernel
theorem d_m_load_86 : decode M_m_load.2.1 86 = .ok (.iconst 0, 1) := by decide +kernel
theorem d_m_load_87 : decode M_m_load.2.1 87 = .ok (.istore_n 2, 1) := by decide +kernel
theorem d_m_load_88 : decode M_m_load.2.1 88 = .ok (.iload_n 2, 1) := by decide +kernel
theorem d_m_load_89 : decode M_m_load.2.1 89 = .ok (.iconst 4, 1) := by decide +kernel
theorem d_m_load_90 : decode M_m_load.2.1 90 = .ok (.aload_n 0, 1) := by decide +kernel
theorem d_m_load_91 : decode M_m_load.2.1 91 = .ok (.getfield 134, 3) := by decide +kernel
theorem d_m_load_94 : decode M_m_load.2.1 94 = .ok (.imul, 1) := by decide +kernel
theorem d_m_load_95 : decode M_m_load.2.1 95 = .ok (.if_icmp .ge 29, 3) := by decide +kernel
theorem d_m_load_98 : decode M_m_load.2.1 98 = .ok (.aload_n 0, 1) := by decide +kernel
theorem d_m_load_99 : decode M_m_load.2.1 99 = .ok (.getfield 16, 3) := by decide +kernel
theorem d_m_load_102 : decode M_m_load.2.1 102 = .ok (.iload_n 2, 1) := by decide +kernel
theorem d_m_load_103 : decode M_m_load.2.1 103 = .ok (.aload_n 0, 1) := by decide +kernel
theorem d_m_load_104 : decode M_m_load.2.1 104 = .ok (.bipush 10, 2) := by decide +kernel
theorem d_m_load_106 : decode M_m_load.2.1 106 = .ok (.iconst 2, 1) := by decide +kernel
theorem d_m_load_107 : decode M_m_load.2.1 107 = .ok (.iload_n 2, 1) := by decide +kernel
theorem d_m_load_108 : decode M_m_load.2.1 108 = .ok (.imul, 1) := by decide +kernel
theorem d_m_load_109 : decode M_m_load.2.1 109 = .ok (.iadd, 1) := by decide +kernel
theorem d_m_load_110 : decode M_m_load.2.1 110 = .ok (.invokevirtual 218, 3) := by decide +kernel
theorem d_m_load_113 : decode M_m_load.2.1 113 = .ok (.sipush 300, 3) := by decide +kernel
theorem d_m_load_116 : decode M_m_load.2.1 116 = .ok (.isub, 1) := by decide +kernel
theorem d_m_load_117 : decode M_m_load.2.1 117 = .ok (.iastore, 1) := by decide +kernel
theorem d_m_load_118 : decode M_m_load.2.1 118 = .ok (.iinc 2 1, 3) := by decide +kernel
theorem d_m_load_121 : decode M_m_load.2.1 121 = .ok (.goto (-33), 3) := by decide +kernel
theorem d_m_load_124 : decode M_m_load.2.1 124 = .ok (.bipush 10, 2) := by decide +kernel
theorem d_m_load_126 : decode M_m_load.2.1 126 = .ok (.bipush 8, 2) := by decide +kernel
theorem d_m_load_128 : decode M_m_load.2.1 128 = .ok (.aload_n 0, 1) := by decide +kernel
theorem d_m_load_129 : decode M_m_load.2.1 129 = .ok (.getfield 134, 3) := by decide +kernel
theorem d_m_load_132 : decode M_m_load.2.1 132 = .ok (.imul, 1) := by decide +kernel
theorem d_m_load_133 : decode M_m_load.2.1 133 = .ok (.iadd, 1) := by decide +kernel
theorem d_m_load_134 : decode M_m_load.2.1 134 = .ok (.istore_n 2, 1) := by decide +kernel
theorem d_m_load_135 : decode M_m_load.2.1 135 = .ok (.iconst 0, 1) := by decide +kernel
theorem d_m_load_136 : decode M_m_load.2.1 136 = .ok (.istore_n 3, 1) := by decide +kernel
theorem d_m_load_137 : decode M_m_load.2.1 137 = .ok (.iload_n 3, 1) := by decide +kernel
theorem d_m_load_138 : decode M_m_load.2.1 138 = .ok (.aload_n 0, 1) := by decide +kernel
theorem d_m_load_139 : decode M_m_load.2.1 139 = .ok (.invokevirtual 144, 3) := by decide +kernel
theorem d_m_load_142 : decode M_m_load.2.1 142 = .ok (.aload_n 0, 1) := by decide +kernel
theorem d_m_load_143 : decode M_m_load.2.1 143 = .ok (.getfield 137, 3) := by decide +kernel
theorem d_m_load_146 : decode M_m_load.2.1 146 = .ok (.imul, 1) := by decide +kernel
theorem d_m_load_147 : decode M_m_load.2.1 147 = .ok (.aload_n 0, 1) := by decide +kernel
theorem d_m_load_148 : decode M_m_load.2.1 148 = .ok (.invokevirtual 164, 3) := by decide +kernel
theorem d_m_load_151 : decode M_m_load.2.1 151 = .ok (.imul, 1) := by decide +kernel
theorem d_m_load_152 : decode M_m_load.2.1 152 = .ok (.if_icmp .ge 76, 3) := by decide +kernel
theorem d_m_load_155 : decode M_m_load.2.1 155 = .ok (.iload_n 3, 1) := by decide +kernel
theorem d_m_load_156 : decode M_m_load.2.1 156 = .ok (.aload_n 0, 1) := by decide +kernel
theorem d_m_load_157 : decode M_m_load.2.1 157 = .ok (.getfield 137, 3) := by decide +kernel
theorem d_m_load_160 : decode M_m_load.2.1 160 = .ok (.aload_n 0, 1) := by decide +kernel
theorem d_m_load_161 : decode M_m_load.2.1 161 = .ok (.invokevirtual 164, 3) := by decide +kernel
theorem d_m_load_164 : decode M_m_load.2.1 164 = .ok (.imul, 1) := by decide +kernel
theorem d_m_load_165 : decode M_m_load.2.1 165 = .ok (.idiv, 1) := by decide +kernel
theorem d_m_load_166 : decode M_m_load.2.1 166 = .ok (.istore 4, 2) := by decide +kernel
theorem d_m_load_168 : decode M_m_load.2.1 168 = .ok (.iload_n 3, 1) := by decide +kernel
theorem d_m_load_169 : decode M_m_load.2.1 169 = .ok (.aload_n 0, 1) := by decide +kernel
theorem d_m_load_170 : decode M_m_load.2.1 170 = .ok (.getfield 137, 3) := by decide +kernel
theorem d_m_load_173 : decode M_m_load.2.1 173 = .ok (.aload_n 0, 1) := by decide +kernel
theorem d_m_load_174 : decode M_m_load.2.1 174 = .ok (.invokevirtual 164, 3) := by decide +kernel
theorem d_m_load_177 : decode M_m_load.2.1 177 = .ok (.imul, 1) := by decide +kernel
theorem d_m_load_178 : decode M_m_load.2.1 178 = .ok (.irem, 1) := by decide +kernel
theorem d_m_load_179 : decode M_m_load.2.1 179 = .ok (.istore 5, 2) := by decide +kernel
theorem d_m_load_181 : decode M_m_load.2.1 181 = .ok (.aload_n 0, 1) := by decide +kernel
theorem d_m_load_182 : decode M_m_load.2.1 182 = .ok (.getfield 19, 3) := by decide +kernel
theorem d_m_load_185 : decode M_m_load.2.1 185 = .ok (.bipush 8, 2) := by decide +kernel
theorem d_m_load_187 : decode M_m_load.2.1 187 = .ok (.iload 4, 2) := by decide +kernel
theorem d_m_load_189 : decode M_m_load.2.1 189 = .ok (.imul, 1) := by decide +kernel
theorem d_m_load_190 : decode M_m_load.2.1 190 = .ok (.iconst 2, 1) := by decide +kernel
theorem d_m_load_191 : decode M_m_load.2.1 191 = .ok (.iload 5, 2) := by decide +kernel
theorem d_m_load_193 : decode M_m_load.2.1 193 = .ok (.aload_n 0, 1) := by decide +kernel
theorem d_m_load_194 : decode M_m_load.2.1 194 = .ok (.invokevirtual 164, 3) := by decide +kernel
theorem d_m_load_197 : decode M_m_load.2.1 197 = .ok (.idiv, 1) := by decide +kernel
theorem d_m_load_198 : decode M_m_load.2.1 198 = .ok (.imul, 1) := by decide +kernel
theorem d_m_load_199 : decode M_m_load.2.1 199 = .ok (.iadd, 1) := by decide +kernel
theorem d_m_load_200 : decode M_m_load.2.1 200 = .ok (.iload 5, 2) := by decide +kernel
theorem d_m_load_202 : decode M_m_load.2.1 202 = .ok (.aload_n 0, 1) := by decide +kernel
theorem d_m_load_203 : decode M_m_load.2.1 203 = .ok (.invokevirtual 164, 3) := by decide +kernel
theorem d_m_load_206 : decode M_m_load.2.1 206 = .ok (.irem, 1) := by decide +kernel
theorem d_m_load_207 : decode M_m_load.2.1 207 = .ok (.iadd, 1) := by decide +kernel
theorem d_m_load_208 : decode M_m_load.2.1 208 = .ok (.aload_n 0, 1) := by decide +kernel
theorem d_m_load_209 : decode M_m_load.2.1 209 = .ok (.iload_n 2, 1) := by decide +kernel
theorem d_m_load_210 : decode M_m_load.2.1 210 = .ok (.iconst 2, 1) := by decide +kernel
theorem d_m_load_211 : decode M_m_load.2.1 211 = .ok (.iload_n 3, 1) := by decide +kernel
theorem d_m_load_212 : decode M_m_load.2.1 212 = .ok (.imul, 1) := by decide +kernel
theorem d_m_load_213 : decode M_m_load.2.1 213 = .ok (.iadd, 1) := by decide +kernel
theorem d_m_load_214 : decode M_m_load.2.1 214 = .ok (.invokevirtual 218, 3) := by decide +kernel
theorem d_m_load_217 : decode M_m_load.2.1 217 = .ok (.sipush 300, 3) := by decide +kernel
theorem d_m_load_220 : decode M_m_load.2.1 220 = .ok (.isub, 1) := by decide +kernel
theorem d_m_load_221 : decode M_m_load.2.1 221 = .ok (.iastore, 1) := by decide +kernel
theorem d_m_load_222 : decode M_m_load.2.1 222 = .ok (.iinc 3 1, 3) := by decide +kernel
theorem d_m_load_225 : decode M_m_load.2.1 225 = .ok (.goto (-88), 3) := by decide +kernel
theorem d_m_load_228 : decode M_m_load.2.1 228 = .ok (.iconst 0, 1) := by decide +kernel
theorem d_m_load_229 : decode M_m_load.2.1 229 = .ok (.istore_n 3, 1) := by decide +kernel
theorem d_m_load_230 : decode M_m_load.2.1 230 = .ok (.iload_n 3, 1) := by decide +kernel
theorem d_m_load_231 : decode M_m_load.2.1 231 = .ok (.sipush 1000, 3) := by decide +kernel
theorem d_m_load_234 : decode M_m_load.2.1 234 = .ok (.if_icmp .ge 16, 3) := by decide +kernel
theorem d_m_load_237 : decode M_m_load.2.1 237 = .ok (.aload_n 0, 1) := by decide +kernel
theorem d_m_load_238 : decode M_m_load.2.1 238 = .ok (.getfield 22, 3) := by decide +kernel
theorem d_m_load_241 : decode M_m_load.2.1 241 = .ok (.iload_n 3, 1) := by decide +kernel
theorem d_m_load_242 : decode M_m_load.2.1 242 = .ok (.iconst 0, 1) := by decide +kernel
theorem d_m_load_243 : decode M_m_load.2.1 243 = .ok (.bastore, 1) := by decide +kernel
theorem d_m_load_244 : decode M_m_load.2.1 244 = .ok (.iinc 3 1, 3) := by decide +kernel
theorem d_m_load_247 : decode M_m_load.2.1 247 = .ok (.goto (-17), 3) := by decide +kernel
theorem d_m_load_250 : decode M_m_load.2.1 250 = .ok (.iconst 0, 1) := by decide +kernel
theorem d_m_load_251 : decode M_m_load.2.1 251 = .ok (.istore_n 3, 1) := by decide +kernel
theorem d_m_load_252 : decode M_m_load.2.1 252 = .ok (.iload_n 3, 1) := by decide +kernel
theorem d_m_load_253 : decode M_m_load.2.1 253 = .ok (.aload_n 0, 1) := by decide +kernel
theorem d_m_load_254 : decode M_m_load.2.1 254 = .ok (.getfield 131, 3) := by decide +kernel
theorem d_m_load_257 : decode M_m_load.2.1 257 = .ok (.if_icmp .ge 78, 3) := by decide +kernel
theorem d_m_load_260 : decode M_m_load.2.1 260 = .ok (.aload_n 0, 1) := by decide +kernel
theorem d_m_load_261 : decode M_m_load.2.1 261 = .ok (.invokevirtual 215, 3) := by decide +kernel
theorem d_m_load_264 : decode M_m_load.2.1 264 = .ok (.bipush 6, 2) := by decide +kernel
theorem d_m_load_266 : decode M_m_load.2.1 266 = .ok (.iload_n 3, 1) := by decide +kernel
theorem d_m_load_267 : decode M_m_load.2.1 267 = .ok (.imul, 1) := by decide +kernel
theorem d_m_load_268 : decode M_m_load.2.1 268 = .ok (.iadd, 1) := by decide +kernel
theorem d_m_load_269 : decode M_m_load.2.1 269 = .ok (.istore 4, 2) := by decide +kernel
theorem d_m_load_271 : decode M_m_load.2.1 271 = .ok (.aload_n 0, 1) := by decide +kernel
theorem d_m_load_272 : decode M_m_load.2.1 272 = .ok (.iload 4, 2) := by decide +kernel
theorem d_m_load_274 : decode M_m_load.2.1 274 = .ok (.invokevirtual 218, 3) := by decide +kernel
theorem d_m_load_277 : decode M_m_load.2.1 277 = .ok (.istore 5, 2) := by decide +kernel
theorem d_m_load_279 : decode M_m_load.2.1 279 = .ok (.aload_n 0, 1) := by decide +kernel
theorem d_m_load_280 : decode M_m_load.2.1 280 = .ok (.getfield 22, 3) := by decide +kernel
theorem d_m_load_283 : decode M_m_load.2.1 283 = .ok (.iload 5, 2) := by decide +kernel
theorem d_m_load_285 : decode M_m_load.2.1 285 = .ok (.iconst 1, 1) := by decide +kernel
theorem d_m_load_286 : decode M_m_load.2.1 286 = .ok (.bastore, 1) := by decide +kernel
theorem d_m_load_287 : decode M_m_load.2.1 287 = .ok (.iconst 0, 1) := by decide +kernel
theorem d_m_load_288 : decode M_m_load.2.1 288 = .ok (.istore 6, 2) := by decide +kernel
theorem d_m_load_290 : decode M_m_load.2.1 290 = .ok (.iload 6, 2) := by decide +kernel
theorem d_m_load_292 : decode M_m_load.2.1 292 = .ok (.iconst 4, 1) := by decide +kernel
theorem d_m_load_293 : decode M_m_load.2.1 293 = .ok (.if_icmp .ge 36, 3) := by decide +kernel
theorem d_m_load_296 : decode M_m_load.2.1 296 = .ok (.aload_n 0, 1) := by decide +kernel
theorem d_m_load_297 : decode M_m_load.2.1 297 = .ok (.getfield 26, 3) := by decide +kernel
theorem d_m_load_300 : decode M_m_load.2.1 300 = .ok (.iconst 4, 1) := by decide +kernel
theorem d_m_load_301 : decode M_m_load.2.1 301 = .ok (.iload 5, 2) := by decide +kernel
theorem d_m_load_303 : decode M_m_load.2.1 303 = .ok (.imul, 1) := by decide +kernel
theorem d_m_load_304 : decode M_m_load.2.1 304 = .ok (.iload 6, 2) := by decide +kernel
theorem d_m_load_306 : decode M_m_load.2.1 306 = .ok (.iadd, 1) := by decide +kernel
theorem d_m_load_307 : decode M_m_load.2.1 307 = .ok (.aload_n 0, 1) := by decide +kernel
theorem d_m_load_308 : decode M_m_load.2.1 308 = .ok (.getfield 35, 3) := by decide +kernel
theorem d_m_load_311 : decode M_m_load.2.1 311 = .ok (.iload 4, 2) := by decide +kernel
theorem d_m_load_313 : decode M_m_load.2.1 313 = .ok (.iconst 2, 1) := by decide +kernel
theorem d_m_load_314 : decode M_m_load.2.1 314 = .ok (.iadd, 1) := by decide +kernel
theorem d_m_load_315 : decode M_m_load.2.1 315 = .ok (.iload 6, 2) := by decide +kernel
theorem d_m_load_317 : decode M_m_load.2.1 317 = .ok (.iadd, 1) := by decide +kernel
theorem d_m_load_318 : decode M_m_load.2.1 318 = .ok (.iaload, 1) := by decide +kernel
theorem d_m_load_319 : decode M_m_load.2.1 319 = .ok (.bipush 100, 2) := by decide +kernel
theorem d_m_load_321 : decode M_m_load.2.1 321 = .ok (.isub, 1) := by decide +kernel
theorem d_m_load_322 : decode M_m_load.2.1 322 = .ok (.iastore, 1) := by decide +kernel
theorem d_m_load_323 : decode M_m_load.2.1 323 = .ok (.iinc 6 1, 3) := by decide +kernel
theorem d_m_load_326 : decode M_m_load.2.1 326 = .ok (.goto (-36), 3) := by decide +kernel
theorem d_m_load_329 : decode M_m_load.2.1 329 = .ok (.iinc 3 1, 3) := by decide +kernel
theorem d_m_load_332 : decode M_m_load.2.1 332 = .ok (.goto (-80), 3) := by decide +kernel
theorem d_m_load_335 : decode M_m_load.2.1 335 = .ok (.iconst 0, 1) := by decide +kernel
theorem d_m_load_336 : decode M_m_load.2.1 336 = .ok (.ireturn, 1) := by decide +kernel
theorem d_m_fault_0 : decode M_m_fault.2.1 0 = .ok (.aload_n 0, 1) := by decide +kernel
theorem d_m_fault_1 : decode M_m_fault.2.1 1 = .ok (.getfield 203, 3) := by decide +kernel
theorem d_m_fault_4 : decode M_m_fault.2.1 4 = .ok (.bipush 11, 2) := by decide +kernel
theorem d_m_fault_6 : decode M_m_fault.2.1 6 = .ok (.if_icmp .ge 5, 3) := by decide +kernel
theorem d_m_fault_9 : decode M_m_fault.2.1 9 = .ok (.iconst 1, 1) := by decide +kernel
theorem d_m_fault_10 : decode M_m_fault.2.1 10 = .ok (.ireturn, 1) := by decide +kernel
theorem d_m_fault_11 : decode M_m_fault.2.1 11 = .ok (.aload_n 0, 1) := by decide +kernel
theorem d_m_fault_12 : decode M_m_fault.2.1 12 = .ok (.getfield 35, 3) := by decide +kernel
theorem d_m_fault_15 : decode M_m_fault.2.1 15 = .ok (.iconst 0, 1) := by decide +kernel
theorem d_m_fault_16 : decode M_m_fault.2.1 16 = .ok (.iaload, 1) := by decide +kernel
theorem d_m_fault_17 : decode M_m_fault.2.1 17 = .ok (.bipush 86, 2) := by decide +kernel
theorem d_m_fault_19 : decode M_m_fault.2.1 19 = .ok (.if_icmp .ne 13, 3) := by decide +kernel
theorem d_m_fault_22 : decode M_m_fault.2.1 22 = .ok (.aload_n 0, 1) := by decide +kernel
theorem d_m_fault_23 : decode M_m_fault.2.1 23 = .ok (.getfield 35, 3) := by decide +kernel
theorem d_m_fault_26 : decode M_m_fault.2.1 26 = .ok (.iconst 1, 1) := by decide +kernel
theorem d_m_fault_27 : decode M_m_fault.2.1 27 = .ok (.iaload, 1) := by decide +kernel
theorem d_m_fault_28 : decode M_m_fault.2.1 28 = .ok (.iconst 1, 1) := by decide +kernel
theorem d_m_fault_29 : decode M_m_fault.2.1 29 = .ok (.if_icmp .eq 20, 3) := by decide +kernel
theorem d_m_fault_32 : decode M_m_fault.2.1 32 = .ok (.aload_n 0, 1) := by decide +kernel
theorem d_m_fault_33 : decode M_m_fault.2.1 33 = .ok (.getfield 35, 3) := by decide +kernel
theorem d_m_fault_36 : decode M_m_fault.2.1 36 = .ok (.iconst 0, 1) := by decide +kernel
theorem d_m_fault_37 : decode M_m_fault.2.1 37 = .ok (.iaload, 1) := by decide +kernel
theorem d_m_fault_38 : decode M_m_fault.2.1 38 = .ok (.bipush 86, 2) := by decide +kernel
theorem d_m_fault_40 : decode M_m_fault.2.1 40 = .ok (.if_icmp .eq 7, 3) := by decide +kernel
theorem d_m_fault_43 : decode M_m_fault.2.1 43 = .ok (.iconst 2, 1) := by decide +kernel
theorem d_m_fault_44 : decode M_m_fault.2.1 44 = .ok (.goto 4, 3) := by decide +kernel
theorem d_m_fault_47 : decode M_m_fault.2.1 47 = .ok (.iconst 3, 1) := by decide +kernel
theorem d_m_fault_48 : decode M_m_fault.2.1 48 = .ok (.ireturn, 1) := by decide +kernel
theorem d_m_fault_49 : decode M_m_fault.2.1 49 = .ok (.aload_n 0, 1) := by decide +kernel
theorem d_m_fault_50 : decode M_m_fault.2.1 50 = .ok (.getfield 35, 3) := by decide +kernel
theorem d_m_fault_53 : decode M_m_fault.2.1 53 = .ok (.iconst 2, 1) := by decide +kernel
theorem d_m_fault_54 : decode M_m_fault.2.1 54 = .ok (.iaload, 1) := by decide +kernel
theorem d_m_fault_55 : decode M_m_fault.2.1 55 = .ok (.iconst 2, 1) := by decide +kernel
theorem d_m_fault_56 : decode M_m_fault.2.1 56 = .ok (.if_icmp .gt 42, 3) := by decide +kernel
theorem d_m_fault_59 : decode M_m_fault.2.1 59 = .ok (.aload_n 0, 1) := by decide +kernel
theorem d_m_fault_60 : decode M_m_fault.2.1 60 = .ok (.getfield 35, 3) := by decide +kernel
theorem d_m_fault_63 : decode M_m_fault.2.1 63 = .ok (.iconst 3, 1) := by decide +kernel
theorem d_m_fault_64 : decode M_m_fault.2.1 64 = .ok (.iaload, 1) := by decide +kernel
theorem d_m_fault_65 : decode M_m_fault.2.1 65 = .ok (.iconst 1, 1) := by decide +kernel
theorem d_m_fault_66 : decode M_m_fault.2.1 66 = .ok (.iconst 4, 1) := by decide +kernel
theorem d_m_fault_67 : decode M_m_fault.2.1 67 = .ok (.invokestatic 85, 3) := by decide +kernel
theorem d_m_fault_70 : decode M_m_fault.2.1 70 = .ok (.ifCond .eq 28, 3) := by decide +kernel
theorem d_m_fault_73 : decode M_m_fault.2.1 73 = .ok (.aload_n 0, 1) := by decide +kernel
theorem d_m_fault_74 : decode M_m_fault.2.1 74 = .ok (.getfield 35, 3) := by decide +kernel
theorem d_m_fault_77 : decode M_m_fault.2.1 77 = .ok (.iconst 4, 1) := by decide +kernel
theorem d_m_fault_78 : decode M_m_fault.2.1 78 = .ok (.iaload, 1) := by decide +kernel
theorem d_m_fault_79 : decode M_m_fault.2.1 79 = .ok (.iconst 1, 1) := by decide +kernel
theorem d_m_fault_80 : decode M_m_fault.2.1 80 = .ok (.iconst 4, 1) := by decide +kernel
theorem d_m_fault_81 : decode M_m_fault.2.1 81 = .ok (.invokestatic 85, 3) := by decide +kernel
theorem d_m_fault_84 : decode M_m_fault.2.1 84 = .ok (.ifCond .eq 14, 3) := by decide +kernel
theorem d_m_fault_87 : decode M_m_fault.2.1 87 = .ok (.aload_n 0, 1) := by decide +kernel
theorem d_m_fault_88 : decode M_m_fault.2.1 88 = .ok (.getfield 35, 3) := by decide +kernel
theorem d_m_fault_91 : decode M_m_fault.2.1 91 = .ok (.iconst 5, 1) := by decide +kernel
theorem d_m_fault_92 : decode M_m_fault.2.1 92 = .ok (.iaload, 1) := by decide +kernel
theorem d_m_fault_93 : decode M_m_fault.2.1 93 = .ok (.bipush 20, 2) := by decide +kernel
theorem d_m_fault_95 : decode M_m_fault.2.1 95 = .ok (.if_icmp .le 5, 3) := by decide +kernel
theorem d_m_fault_98 : decode M_m_fault.2.1 98 = .ok (.iconst 4, 1) := by decide +kernel
theorem d_m_fault_99 : decode M_m_fault.2.1 99 = .ok (.ireturn, 1) := by decide +kernel
theorem d_m_fault_100 : decode M_m_fault.2.1 100 = .ok (.aload_n 0, 1) := by decide +kernel
theorem d_m_fault_101 : decode M_m_fault.2.1 101 = .ok (.getfield 35, 3) := by decide +kernel
theorem d_m_fault_104 : decode M_m_fault.2.1 104 = .ok (.bipush 6, 2) := by decide +kernel
theorem d_m_fault_106 : decode M_m_fault.2.1 106 = .ok (.iaload, 1) := by decide +kernel
theorem d_m_fault_107 : decode M_m_fault.2.1 107 = .ok (.iconst 4, 1) := by decide +kernel
theorem d_m_fault_108 : decode M_m_fault.2.1 108 = .ok (.isub, 1) := by decide +kernel
theorem d_m_fault_109 : decode M_m_fault.2.1 109 = .ok (.aload_n 0, 1) := by decide +kernel
theorem d_m_fault_110 : decode M_m_fault.2.1 110 = .ok (.getfield 35, 3) := by decide +kernel
theorem d_m_fault_113 : decode M_m_fault.2.1 113 = .ok (.bipush 7, 2) := by decide +kernel
theorem d_m_fault_115 : decode M_m_fault.2.1 115 = .ok (.iaload, 1) := by decide +kernel
theorem d_m_fault_116 : decode M_m_fault.2.1 116 = .ok (.iconst 4, 1) := by decide +kernel
theorem d_m_fault_117 : decode M_m_fault.2.1 117 = .ok (.isub, 1) := by decide +kernel
theorem d_m_fault_118 : decode M_m_fault.2.1 118 = .ok (.aload_n 0, 1) := by decide +kernel
theorem d_m_fault_119 : decode M_m_fault.2.1 119 = .ok (.getfield 35, 3) := by decide +kernel
theorem d_m_fault_122 : decode M_m_fault.2.1 122 = .ok (.bipush 8, 2) := by decide +kernel
theorem d_m_fault_124 : decode M_m_fault.2.1 124 = .ok (.iaload, 1) := by decide +kernel
theorem d_m_fault_125 : decode M_m_fault.2.1 125 = .ok (.iconst 4, 1) := by decide +kernel
theorem d_m_fault_126 : decode M_m_fault.2.1 126 = .ok (.isub, 1) := by decide +kernel
theorem d_m_fault_127 : decode M_m_fault.2.1 127 = .ok (.aload_n 0, 1) := by decide +kernel
theorem d_m_fault_128 : decode M_m_fault.2.1 128 = .ok (.getfield 35, 3) := by decide +kernel
theorem d_m_fault_131 : decode M_m_fault.2.1 131 = .ok (.bipush 9, 2) := by decide +kernel
theorem d_m_fault_133 : decode M_m_fault.2.1 133 = .ok (.iaload, 1) := by decide +kernel
theorem d_m_fault_134 : decode M_m_fault.2.1 134 = .ok (.iconst 4, 1) := by decide +kernel
theorem d_m_fault_135 : decode M_m_fault.2.1 135 = .ok (.isub, 1) := by decide +kernel
theorem d_m_fault_136 : decode M_m_fault.2.1 136 = .ok (.invokestatic 96, 3) := by decide +kernel
theorem d_m_fault_139 : decode M_m_fault.2.1 139 = .ok (.ifCond .ne 5, 3) := by decide +kernel
theorem d_m_fault_142 : decode M_m_fault.2.1 142 = .ok (.iconst 5, 1) := by decide +kernel
theorem d_m_fault_143 : decode M_m_fault.2.1 143 = .ok (.ireturn, 1) := by decide +kernel
theorem d_m_fault_144 : decode M_m_fault.2.1 144 = .ok (.aload_n 0, 1) := by decide +kernel
theorem d_m_fault_145 : decode M_m_fault.2.1 145 = .ok (.invokevirtual 215, 3) := by decide +kernel
theorem d_m_fault_148 : decode M_m_fault.2.1 148 = .ok (.istore_n 1, 1) := by decide +kernel
theorem d_m_fault_149 : decode M_m_fault.2.1 149 = .ok (.aload_n 0, 1) := by decide +kernel
theorem d_m_fault_150 : decode M_m_fault.2.1 150 = .ok (.getfield 35, 3) := by decide +kernel
theorem d_m_fault_153 : decode M_m_fault.2.1 153 = .ok (.iconst 5, 1) := by decide +kernel
theorem d_m_fault_154 : decode M_m_fault.2.1 154 = .ok (.iaload, 1) := by decide +kernel
theorem d_m_fault_155 : decode M_m_fault.2.1 155 = .ok (.istore_n 2, 1) := by decide +kernel
theorem d_m_fault_156 : decode M_m_fault.2.1 156 = .ok (.aload_n 0, 1) := by decide +kernel
theorem d_m_fault_157 : decode M_m_fault.2.1 157 = .ok (.getfield 203, 3) := by decide +kernel
theorem d_m_fault_160 : decode M_m_fault.2.1 160 = .ok (.iload_n 1, 1) := by decide +kernel
theorem d_m_fault_161 : decode M_m_fault.2.1 161 = .ok (.bipush 6, 2) := by decide +kernel
theorem d_m_fault_163 : decode M_m_fault.2.1 163 = .ok (.iload_n 2, 1) := by decide +kernel
theorem d_m_fault_164 : decode M_m_fault.2.1 164 = .ok (.imul, 1) := by decide +kernel
theorem d_m_fault_165 : decode M_m_fault.2.1 165 = .ok (.iadd, 1) := by decide +kernel
theorem d_m_fault_166 : decode M_m_fault.2.1 166 = .ok (.iconst 1, 1) := by decide +kernel
theorem d_m_fault_167 : decode M_m_fault.2.1 167 = .ok (.iadd, 1) := by decide +kernel
theorem d_m_fault_168 : decode M_m_fault.2.1 168 = .ok (.if_icmp .eq 6, 3) := by decide +kernel
theorem d_m_fault_171 : decode M_m_fault.2.1 171 = .ok (.bipush 6, 2) := by decide +kernel
theorem d_m_fault_173 : decode M_m_fault.2.1 173 = .ok (.ireturn, 1) := by decide +kernel
theorem d_m_fault_174 : decode M_m_fault.2.1 174 = .ok (.aload_n 0, 1) := by decide +kernel
theorem d_m_fault_175 : decode M_m_fault.2.1 175 = .ok (.getfield 35, 3) := by decide +kernel
theorem d_m_fault_178 : decode M_m_fault.2.1 178 = .ok (.aload_n 0, 1) := by decide +kernel
theorem d_m_fault_179 : decode M_m_fault.2.1 179 = .ok (.getfield 203, 3) := by decide +kernel
theorem d_m_fault_182 : decode M_m_fault.2.1 182 = .ok (.iconst 1, 1) := by decide +kernel
theorem d_m_fault_183 : decode M_m_fault.2.1 183 = .ok (.isub, 1) := by decide +kernel
theorem d_m_fault_184 : decode M_m_fault.2.1 184 = .ok (.iaload, 1) := by decide +kernel
theorem d_m_fault_185 : decode M_m_fault.2.1 185 = .ok (.aload_n 0, 1) := by decide +kernel
theorem d_m_fault_186 : decode M_m_fault.2.1 186 = .ok (.aload_n 0, 1) := by decide +kernel
theorem d_m_fault_187 : decode M_m_fault.2.1 187 = .ok (.getfield 203, 3) := by decide +kernel
theorem d_m_fault_190 : decode M_m_fault.2.1 190 = .ok (.iconst 1, 1) := by decide +kernel
theorem d_m_fault_191 : decode M_m_fault.2.1 191 = .ok (.isub, 1) := by decide +kernel
theorem d_m_fault_192 : decode M_m_fault.2.1 192 = .ok (.invokevirtual 212, 3) := by decide +kernel
theorem d_m_fault_195 : decode M_m_fault.2.1 195 = .ok (.if_icmp .eq 6, 3) := by decide +kernel
theorem d_m_fault_198 : decode M_m_fault.2.1 198 = .ok (.bipush 7, 2) := by decide +kernel
theorem d_m_fault_200 : decode M_m_fault.2.1 200 = .ok (.ireturn, 1) := by decide +kernel
theorem d_m_fault_201 : decode M_m_fault.2.1 201 = .ok (.bipush 10, 2) := by decide +kernel
theorem d_m_fault_203 : decode M_m_fault.2.1 203 = .ok (.istore_n 3, 1) := by decide +kernel
theorem d_m_fault_204 : decode M_m_fault.2.1 204 = .ok (.iload_n 3, 1) := by decide +kernel
theorem d_m_fault_205 : decode M_m_fault.2.1 205 = .ok (.iload_n 1, 1) := by decide +kernel
theorem d_m_fault_206 : decode M_m_fault.2.1 206 = .ok (.if_icmp .ge 23, 3) := by decide +kernel
theorem d_m_fault_209 : decode M_m_fault.2.1 209 = .ok (.aload_n 0, 1) := by decide +kernel
theorem d_m_fault_210 : decode M_m_fault.2.1 210 = .ok (.iload_n 3, 1) := by decide +kernel
theorem d_m_fault_211 : decode M_m_fault.2.1 211 = .ok (.invokevirtual 218, 3) := by decide +kernel
theorem d_m_fault_214 : decode M_m_fault.2.1 214 = .ok (.sipush 600, 3) := by decide +kernel
theorem d_m_fault_217 : decode M_m_fault.2.1 217 = .ok (.if_icmp .le 6, 3) := by decide +kernel
theorem d_m_fault_220 : decode M_m_fault.2.1 220 = .ok (.bipush 8, 2) := by decide +kernel
theorem d_m_fault_222 : decode M_m_fault.2.1 222 = .ok (.ireturn, 1) := by decide +kernel
theorem d_m_fault_223 : decode M_m_fault.2.1 223 = .ok (.iinc 3 2, 3) := by decide +kernel
theorem d_m_fault_226 : decode M_m_fault.2.1 226 = .ok (.goto (-22), 3) := by decide +kernel
theorem d_m_fault_229 : decode M_m_fault.2.1 229 = .ok (.iconst 0, 1) := by decide +kernel
theorem d_m_fault_230 : decode M_m_fault.2.1 230 = .ok (.istore_n 3, 1) := by decide +kernel
theorem d_m_fault_231 : decode M_m_fault.2.1 231 = .ok (.iload_n 3, 1) := by decide +kernel
theorem d_m_fault_232 : decode M_m_fault.2.1 232 = .ok (.iload_n 2, 1) := by decide +kernel
theorem d_m_fault_233 : decode M_m_fault.2.1 233 = .ok (.if_icmp .ge 134, 3) := by decide +kernel
theorem d_m_fault_236 : decode M_m_fault.2.1 236 = .ok (.iload_n 1, 1) := by decide +kernel
theorem d_m_fault_237 : decode M_m_fault.2.1 237 = .ok (.bipush 6, 2) := by decide +kernel
theorem d_m_fault_239 : decode M_m_fault.2.1 239 = .ok (.iload_n 3, 1) := by decide +kernel
theorem d_m_fault_240 : decode M_m_fault.2.1 240 = .ok (.imul, 1) := by decide +kernel
theorem d_m_fault_241 : decode M_m_fault.2.1 241 = .ok (.iadd, 1) := by decide +kernel
theorem d_m_fault_242 : decode M_m_fault.2.1 242 = .ok (.istore 4, 2) := by decide +kernel
theorem d_m_fault_244 : decode M_m_fault.2.1 244 = .ok (.iload_n 3, 1) := by decide +kernel
theorem d_m_fault_245 : decode M_m_fault.2.1 245 = .ok (.ifCond .ne 7, 3) := by decide +kernel
theorem d_m_fault_248 : decode M_m_fault.2.1 248 = .ok (.iconst (-1), 1) := by decide +kernel
theorem d_m_fault_249 : decode M_m_fault.2.1 249 = .ok (.goto 12, 3) := by decide +kernel
theorem d_m_fault_252 : decode M_m_fault.2.1 252 = .ok (.aload_n 0, 1) := by decide +kernel
theorem d_m_fault_253 : decode M_m_fault.2.1 253 = .ok (.iload 4, 2) := by decide +kernel
theorem d_m_fault_255 : decode M_m_fault.2.1 255 = .ok (.bipush 6, 2) := by decide +kernel
theorem d_m_fault_257 : decode M_m_fault.2.1 257 = .ok (.isub, 1) := by decide +kernel
theorem d_m_fault_258 : decode M_m_fault.2.1 258 = .ok (.invokevirtual 218, 3) := by decide +kernel
theorem d_m_fault_261 : decode M_m_fault.2.1 261 = .ok (.istore 5, 2) := by decide +kernel
theorem d_m_fault_263 : decode M_m_fault.2.1 263 = .ok (.aload_n 0, 1) := by decide +kernel
theorem d_m_fault_264 : decode M_m_fault.2.1 264 = .ok (.iload 4, 2) := by decide +kernel
theorem d_m_fault_266 : decode M_m_fault.2.1 266 = .ok (.invokevirtual 218, 3) := by decide +kernel
theorem d_m_fault_269 : decode M_m_fault.2.1 269 = .ok (.sipush 999, 3) := by decide +kernel
theorem d_m_fault_272 : decode M_m_fault.2.1 272 = .ok (.if_icmp .gt 14, 3) := by decide +kernel
theorem d_m_fault_275 : decode M_m_fault.2.1 275 = .ok (.aload_n 0, 1) := by decide +kernel
theorem d_m_fault_276 : decode M_m_fault.2.1 276 = .ok (.iload 4, 2) := by decide +kernel
theorem d_m_fault_278 : decode M_m_fault.2.1 278 = .ok (.invokevirtual 218, 3) := by decide +kernel
theorem d_m_fault_281 : decode M_m_fault.2.1 281 = .ok (.iload 5, 2) := by decide +kernel
theorem d_m_fault_283 : decode M_m_fault.2.1 283 = .ok (.if_icmp .gt 7, 3) := by decide +kernel
theorem d_m_fault_286 : decode M_m_fault.2.1 286 = .ok (.iconst 1, 1) := by decide +kernel
theorem d_m_fault_287 : decode M_m_fault.2.1 287 = .ok (.goto 4, 3) := by decide +kernel
theorem d_m_fault_290 : decode M_m_fault.2.1 290 = .ok (.iconst 0, 1) := by decide +kernel
theorem d_m_fault_291 : decode M_m_fault.2.1 291 = .ok (.istore 6, 2) := by decide +kernel
theorem d_m_fault_293 : decode M_m_fault.2.1 293 = .ok (.iload 6, 2) := by decide +kernel
theorem d_m_fault_295 : decode M_m_fault.2.1 295 = .ok (.ifCond .ne 63, 3) := by decide +kernel
theorem d_m_fault_298 : decode M_m_fault.2.1 298 = .ok (.aload_n 0, 1) := by decide +kernel
theorem d_m_fault_299 : decode M_m_fault.2.1 299 = .ok (.getfield 35, 3) := by decide +kernel
theorem d_m_fault_302 : decode M_m_fault.2.1 302 = .ok (.iload 4, 2) := by decide +kernel
theorem d_m_fault_304 : decode M_m_fault.2.1 304 = .ok (.iconst 2, 1) := by decide +kernel
theorem d_m_fault_305 : decode M_m_fault.2.1 305 = .ok (.iadd, 1) := by decide +kernel
theorem d_m_fault_306 : decode M_m_fault.2.1 306 = .ok (.iaload, 1) := by decide +kernel
theorem d_m_fault_307 : decode M_m_fault.2.1 307 = .ok (.sipush 200, 3) := by decide +kernel
theorem d_m_fault_310 : decode M_m_fault.2.1 310 = .ok (.if_icmp .gt 48, 3) := by decide +kernel
theorem d_m_fault_313 : decode M_m_fault.2.1 313 = .ok (.aload_n 0, 1) := by decide +kernel
theorem d_m_fault_314 : decode M_m_fault.2.1 314 = .ok (.getfield 35, 3) := by decide +kernel
theorem d_m_fault_317 : decode M_m_fault.2.1 317 = .ok (.iload 4, 2) := by decide +kernel
theorem d_m_fault_319 : decode M_m_fault.2.1 319 = .ok (.iconst 3, 1) := by decide +kernel
theorem d_m_fault_320 : decode M_m_fault.2.1 320 = .ok (.iadd, 1) := by decide +kernel
theorem d_m_fault_321 : decode M_m_fault.2.1 321 = .ok (.iaload, 1) := by decide +kernel
theorem d_m_fault_322 : decode M_m_fault.2.1 322 = .ok (.sipush 200, 3) := by decide +kernel
theorem d_m_fault_325 : decode M_m_fault.2.1 325 = .ok (.if_icmp .gt 33, 3) := by decide +kernel
theorem d_m_fault_328 : decode M_m_fault.2.1 328 = .ok (.aload_n 0, 1) := by decide +kernel
theorem d_m_fault_329 : decode M_m_fault.2.1 329 = .ok (.getfield 35, 3) := by decide +kernel
theorem d_m_fault_332 : decode M_m_fault.2.1 332 = .ok (.iload 4, 2) := by decide +kernel
theorem d_m_fault_334 : decode M_m_fault.2.1 334 = .ok (.iconst 4, 1) := by decide +kernel
theorem d_m_fault_335 : decode M_m_fault.2.1 335 = .ok (.iadd, 1) := by decide +kernel
theorem d_m_fault_336 : decode M_m_fault.2.1 336 = .ok (.iaload, 1) := by decide +kernel
theorem d_m_fault_337 : decode M_m_fault.2.1 337 = .ok (.sipush 200, 3) := by decide +kernel
theorem d_m_fault_340 : decode M_m_fault.2.1 340 = .ok (.if_icmp .gt 18, 3) := by decide +kernel
theorem d_m_fault_343 : decode M_m_fault.2.1 343 = .ok (.aload_n 0, 1) := by decide +kernel
theorem d_m_fault_344 : decode M_m_fault.2.1 344 = .ok (.getfield 35, 3) := by decide +kernel
theorem d_m_fault_347 : decode M_m_fault.2.1 347 = .ok (.iload 4, 2) := by decide +kernel
theorem d_m_fault_349 : decode M_m_fault.2.1 349 = .ok (.iconst 5, 1) := by decide +kernel
theorem d_m_fault_350 : decode M_m_fault.2.1 350 = .ok (.iadd, 1) := by decide +kernel
theorem d_m_fault_351 : decode M_m_fault.2.1 351 = .ok (.iaload, 1) := by decide +kernel
theorem d_m_fault_352 : decode M_m_fault.2.1 352 = .ok (.sipush 200, 3) := by decide +kernel
theorem d_m_fault_355 : decode M_m_fault.2.1 355 = .ok (.if_icmp .le 6, 3) := by decide +kernel
theorem d_m_fault_358 : decode M_m_fault.2.1 358 = .ok (.bipush 9, 2) := by decide +kernel
theorem d_m_fault_360 : decode M_m_fault.2.1 360 = .ok (.ireturn, 1) := by decide +kernel
theorem d_m_fault_361 : decode M_m_fault.2.1 361 = .ok (.iinc 3 1, 3) := by decide +kernel
theorem d_m_fault_364 : decode M_m_fault.2.1 364 = .ok (.goto (-133), 3) := by decide +kernel
theorem d_m_fault_367 : decode M_m_fault.2.1 367 = .ok (.iconst 0, 1) := by decide +kernel
theorem d_m_fault_368 : decode M_m_fault.2.1 368 = .ok (.ireturn, 1) := by decide +kernel
theorem d_m_head_0 : decode M_m_head.2.1 0 = .ok (.aload_n 0, 1) := by decide +kernel
theorem d_m_head_1 : decode M_m_head.2.1 1 = .ok (.getfield 35, 3) := by decide +kernel
theorem d_m_head_4 : decode M_m_head.2.1 4 = .ok (.iconst 2, 1) := by decide +kernel
theorem d_m_head_5 : decode M_m_head.2.1 5 = .ok (.iaload, 1) := by decide +kernel
theorem d_m_head_6 : decode M_m_head.2.1 6 = .ok (.iconst 2, 1) := by decide +kernel
theorem d_m_head_7 : decode M_m_head.2.1 7 = .ok (.if_icmp .ne 7, 3) := by decide +kernel
theorem d_m_head_10 : decode M_m_head.2.1 10 = .ok (.iconst 0, 1) := by decide +kernel
theorem d_m_head_11 : decode M_m_head.2.1 11 = .ok (.goto 11, 3) := by decide +kernel
theorem d_m_head_14 : decode M_m_head.2.1 14 = .ok (.iconst 4, 1) := by decide +kernel
theorem d_m_head_15 : decode M_m_head.2.1 15 = .ok (.aload_n 0, 1) := by decide +kernel
theorem d_m_head_16 : decode M_m_head.2.1 16 = .ok (.getfield 35, 3) := by decide +kernel
theorem d_m_head_19 : decode M_m_head.2.1 19 = .ok (.iconst 4, 1) := by decide +kernel
theorem d_m_head_20 : decode M_m_head.2.1 20 = .ok (.iaload, 1) := by decide +kernel
theorem d_m_head_21 : decode M_m_head.2.1 21 = .ok (.imul, 1) := by decide +kernel
theorem d_m_head_22 : decode M_m_head.2.1 22 = .ok (.istore_n 1, 1) := by decide +kernel
theorem d_m_head_23 : decode M_m_head.2.1 23 = .ok (.bipush 10, 2) := by decide +kernel
theorem d_m_head_25 : decode M_m_head.2.1 25 = .ok (.bipush 8, 2) := by decide +kernel
theorem d_m_head_27 : decode M_m_head.2.1 27 = .ok (.aload_n 0, 1) := by decide +kernel
theorem d_m_head_28 : decode M_m_head.2.1 28 = .ok (.getfield 35, 3) := by decide +kernel
theorem d_m_head_31 : decode M_m_head.2.1 31 = .ok (.iconst 3, 1) := by decide +kernel
theorem d_m_head_32 : decode M_m_head.2.1 32 = .ok (.iaload, 1) := by decide +kernel
theorem d_m_head_33 : decode M_m_head.2.1 33 = .ok (.imul, 1) := by decide +kernel
theorem d_m_head_34 : decode M_m_head.2.1 34 = .ok (.iadd, 1) := by decide +kernel
theorem d_m_head_35 : decode M_m_head.2.1 35 = .ok (.iconst 2, 1) := by decide +kernel
theorem d_m_head_36 : decode M_m_head.2.1 36 = .ok (.iload_n 1, 1) := by decide +kernel
theorem d_m_head_37 : decode M_m_head.2.1 37 = .ok (.imul, 1) := by decide +kernel
theorem d_m_head_38 : decode M_m_head.2.1 38 = .ok (.iadd, 1) := by decide +kernel
theorem d_m_head_39 : decode M_m_head.2.1 39 = .ok (.ireturn, 1) := by decide +kernel
theorem d_m_two_0 : decode M_m_two.2.1 0 = .ok (.aload_n 0, 1) := by decide +kernel
theorem d_m_two_1 : decode M_m_two.2.1 1 = .ok (.getfield 35, 3) := by decide +kernel
theorem d_m_two_4 : decode M_m_two.2.1 4 = .ok (.iload_n 1, 1) := by decide +kernel
theorem d_m_two_5 : decode M_m_two.2.1 5 = .ok (.iaload, 1) := by decide +kernel
theorem d_m_two_6 : decode M_m_two.2.1 6 = .ok (.sipush 256, 3) := by decide +kernel
theorem d_m_two_9 : decode M_m_two.2.1 9 = .ok (.imul, 1) := by decide +kernel
theorem d_m_two_10 : decode M_m_two.2.1 10 = .ok (.aload_n 0, 1) := by decide +kernel
theorem d_m_two_11 : decode M_m_two.2.1 11 = .ok (.getfield 35, 3) := by decide +kernel
theorem d_m_two_14 : decode M_m_two.2.1 14 = .ok (.iload_n 1, 1) := by decide +kernel
theorem d_m_two_15 : decode M_m_two.2.1 15 = .ok (.iconst 1, 1) := by decide +kernel
theorem d_m_two_16 : decode M_m_two.2.1 16 = .ok (.iadd, 1) := by decide +kernel
theorem d_m_two_17 : decode M_m_two.2.1 17 = .ok (.iaload, 1) := by decide +kernel
theorem d_m_two_18 : decode M_m_two.2.1 18 = .ok (.iadd, 1) := by decide +kernel
theorem d_m_two_19 : decode M_m_two.2.1 19 = .ok (.ireturn, 1) := by decide +kernel
end
section
/-! Ground for the contracts: counting loops, booleans, the layout's rows and entries, distances, the nearest of several. -/
theorem loopUp {P : Nat → Prop} (e : Nat) (hs : ∀ k, k ≤ e → (k < e → P (k + 1)) → P k) : ∀ k, k ≤ e → P k := by
  have h : ∀ n k, e - k = n → k ≤ e → P k := by
    intro n
    induction n with
    | zero => intro k h1 h2; exact hs k h2 (fun h => absurd h (by omega))
    | succ n ih => intro k h1 h2; exact hs k h2 (fun h => ih (k + 1) (by omega) (by omega))
  exact fun k hk => h _ k rfl hk
theorem loopDown {P : Nat → Prop} (hs : ∀ k, (0 < k → P (k - 1)) → P k) : ∀ k, P k := by
  intro k
  induction k with
  | zero => exact hs 0 (fun h => absurd h (by omega))
  | succ k ih => exact hs (k + 1) (fun _ => ih)
/-- a write -/
def put (S : St) (c i : Nat) (v : Int32) : St := (up2 S.1 c i v, S.2)
def putT (S : St) (i b : Nat) : St := (S.1, upT S.2 i b)
theorem put_at {S : St} {c i : Nat} {v : Int32} : (put S c i v).1 c i = v := up2_same
theorem put_ne {S : St} {c i c' i' : Nat} {v : Int32} (h : ¬ (c' = c ∧ i' = i)) : (put S c i v).1 c' i' = S.1 c' i' := up2_ne h
theorem put_row {S : St} {c i d : Nat} {v : Int32} (h : d ≠ c) : (put S c i v).1 d = S.1 d := up2_row h
theorem put_T {S : St} {c i : Nat} {v : Int32} : (put S c i v).2 = S.2 := rfl
theorem w_iastNP {M : Mt} {pc : Nat} {L st : List Value} {S : St} {Z : Option Value → St → Prop} {a n : Nat} {v : Int32} (hd : decode M.2.1 pc = .ok (.iastore, 1)) (ha : a < 204) (hk : kd a = 0) (hn : n < ln a) (h : Wp M (pc + 1) L st (put S a n v) Z) : Wp M pc L (.int v :: .int (nI n) :: .ref a :: st) S Z := w_iastN hd ha hk hn h
theorem w_bastNP {M : Mt} {pc : Nat} {L st : List Value} {S : St} {Z : Option Value → St → Prop} {a n : Nat} {v : Int32} (hd : decode M.2.1 pc = .ok (.bastore, 1)) (ha : a < 204) (hk : kd a = 1) (hn : n < ln a) (hv : v = 0 ∨ v = 1) (h : Wp M (pc + 1) L st (put S a n v) Z) : Wp M pc L (.int v :: .int (nI n) :: .ref a :: st) S Z := w_bastN hd ha hk hn hv h
theorem w_eastNP {M : Mt} {pc : Nat} {L st : List Value} {S : St} {Z : Option Value → St → Prop} {n b : Nat} (hd : decode M.2.1 pc = .ok (.aastore, 1)) (hn : n < 20) (hb1 : 124 ≤ b) (hb2 : b < 144) (h : Wp M (pc + 1) L st (putT S n b) Z) : Wp M pc L (.ref b :: .int (nI n) :: .ref 19 :: st) S Z := w_eastN hd hn hb1 hb2 h
theorem w_putIP {M : Mt} {pc : Nat} {L st : List Value} {S : St} {Z : Option Value → St → Prop} {idx ci k a : Nat} {v : Int32} (hd : decode M.2.1 pc = .ok (.putfield idx, 3)) (hf : FL M.1.cls idx ci k) (hw : FW ci k .int) (ha : a < 204) (hk : kd a = 4 + ci) (hr : fref a k = none) (h : Wp M (pc + 3) L st (put S a k v) Z) : Wp M pc L (.int v :: .ref a :: st) S Z := w_putI hd hf hw ha hk hr h
theorem w_putZP {M : Mt} {pc : Nat} {L st : List Value} {S : St} {Z : Option Value → St → Prop} {idx ci k a : Nat} {v : Int32} (hd : decode M.2.1 pc = .ok (.putfield idx, 3)) (hf : FL M.1.cls idx ci k) (hw : FW ci k .boolean) (ha : a < 204) (hk : kd a = 4 + ci) (hr : fref a k = none) (hv : v = 0 ∨ v = 1) (h : Wp M (pc + 3) L st (put S a k v) Z) : Wp M pc L (.int v :: .ref a :: st) S Z := w_putZ hd hf hw ha hk hr hv h
def bI (b : Bool) : Int32 := if b = true then 1 else 0
theorem bI_01 (b : Bool) : bI b = 0 ∨ bI b = 1 := by cases b <;> decide
theorem bI_0 {b : Bool} (h : bI b = 0) : b = false := by cases b <;> first | rfl | (exact absurd h (by decide))
theorem bI_1 {b : Bool} (h : ¬ bI b = 0) : b = true := by cases b <;> first | rfl | (exact absurd rfl h)
theorem w_if_eqB {M : Mt} {pc : Nat} {L st : List Value} {S : St} {Z : Option Value → St → Prop} {b : Bool} {off : Int} (tgt : Nat) (hd : decode M.2.1 pc = .ok (.ifCond .eq off, 3)) (ht : (pc : Int) + off = (tgt : Int)) (ht1 : b = false → Wp M tgt L st S Z) (hf1 : b = true → Wp M (pc + 3) L st S Z) : Wp M pc L (.int (bI b) :: st) S Z := w_if_eq tgt hd ht (fun q => ht1 (bI_0 q)) (fun q => hf1 (bI_1 q))
theorem w_if_neB {M : Mt} {pc : Nat} {L st : List Value} {S : St} {Z : Option Value → St → Prop} {b : Bool} {off : Int} (tgt : Nat) (hd : decode M.2.1 pc = .ok (.ifCond .ne off, 3)) (ht : (pc : Int) + off = (tgt : Int)) (ht1 : b = true → Wp M tgt L st S Z) (hf1 : b = false → Wp M (pc + 3) L st S Z) : Wp M pc L (.int (bI b) :: st) S Z := w_if_ne tgt hd ht (fun q => ht1 (bI_1 q)) (fun q => hf1 (bI_0 q))
theorem kd_row48 {i : Nat} (h : i < 24) : kd (48 + i) = 0 := by unfold kd; (repeat' split) <;> first | omega | rfl
theorem kd_row72 {i : Nat} (h : i < 24) : kd (72 + i) = 0 := by unfold kd; (repeat' split) <;> first | omega | rfl
theorem kd_row96 {i : Nat} (h : i < 4) : kd (96 + i) = 0 := by unfold kd; (repeat' split) <;> first | omega | rfl
theorem kd_row100 {i : Nat} (h : i < 4) : kd (100 + i) = 0 := by unfold kd; (repeat' split) <;> first | omega | rfl
theorem kd_row104 {i : Nat} (h : i < 4) : kd (104 + i) = 0 := by unfold kd; (repeat' split) <;> first | omega | rfl
theorem kd_row108 {i : Nat} (h : i < 16) : kd (108 + i) = 0 := by unfold kd; (repeat' split) <;> first | omega | rfl
theorem ln_row48 {i : Nat} (h : i < 24) : ln (48 + i) = 4 := by unfold ln; (repeat' split) <;> first | omega | rfl
theorem ln_row72 {i : Nat} (h : i < 24) : ln (72 + i) = 4 := by unfold ln; (repeat' split) <;> first | omega | rfl
theorem ln_row96 {i : Nat} (h : i < 4) : ln (96 + i) = 4 := by unfold ln; (repeat' split) <;> first | omega | rfl
theorem ln_row100 {i : Nat} (h : i < 4) : ln (100 + i) = 4 := by unfold ln; (repeat' split) <;> first | omega | rfl
theorem ln_row104 {i : Nat} (h : i < 4) : ln (104 + i) = 4 := by unfold ln; (repeat' split) <;> first | omega | rfl
theorem ln_row108 {i : Nat} (h : i < 16) : ln (108 + i) = 2 := by unfold ln; (repeat' split) <;> first | omega | rfl
theorem kd_ent {c : Nat} (h1 : 124 ≤ c) (h2 : c < 144) : kd c = 4 + 9 := by unfold kd; (repeat' split) <;> first | omega | rfl
theorem kd_enta {c : Nat} (h1 : 144 ≤ c) (h2 : c < 204) : kd c = 0 := by unfold kd; (repeat' split) <;> first | omega | rfl
theorem ln_enta {c : Nat} (h1 : 144 ≤ c) (h2 : c < 204) : ln c = 4 := by unfold ln; (repeat' split) <;> first | omega | rfl
theorem fref_ent {c k : Nat} (h1 : 124 ≤ c) (h2 : k < 3) : fref c k = some (c + 20 + 20 * k) := by unfold fref; rw [if_neg (by omega), if_pos h2]
theorem fref_entI {c k : Nat} (h1 : 124 ≤ c) (h2 : ¬ k < 3) : fref c k = none := by unfold fref; rw [if_neg (by omega), if_neg h2]
/-- the distance of two rows over w places -/
def dst (f g : Nat → Int32) : Nat → Int32
  | 0 => 0
  | k + 1 => dst f g k + (f k - g k) * (f k - g k)
/-- the first of the least among d 0 .. d (n - 1) -/
def near (d : Nat → Int32) : Nat → Nat
  | 0 => 0
  | n + 1 => if d n < d (near d n) then n else near d n
theorem near_lt (d : Nat → Int32) : ∀ n, 0 < n → near d n < n
  | 0, h => absurd h (by omega)
  | 1, _ => by show (if d 0 < d 0 then 0 else 0) < 1; split <;> decide
  | n + 2, _ => by
    have := near_lt d (n + 1) (by omega)
    show (if d (n + 1) < d (near d (n + 1)) then n + 1 else near d (n + 1)) < n + 2
    split <;> omega
theorem near_1 (d : Nat → Int32) : near d 1 = 0 := by show (if d 0 < d 0 then 0 else 0) = 0; split <;> rfl
theorem rb0 {b : Bool} (h : b = false) : some (Value.int (nI 0)) = some (Value.int (bI b)) := by subst h; rfl
theorem rb1 {b : Bool} (h : b = true) : some (Value.int (nI 1)) = some (Value.int (bI b)) := by subst h; rfl
theorem nI_in2 {v : Int32} {a b : Nat} (h : nI a ≤ v ∧ v ≤ nI b) (ha : a < 2 ^ 31) (hb : b < 2 ^ 31) : ∃ j, a ≤ j ∧ j ≤ b ∧ v = nI j := by
  obtain ⟨j, hj, rfl⟩ := nI_of (x := v) (fun q => by
    have h1 := h.1
    rw [Int32.le_iff_toInt_le, nI_toInt ha] at h1
    rw [Int32.lt_iff_toInt_lt, Int32.toInt_zero] at q
    omega)
  exact ⟨j, (nI_leI ha hj).mp h.1, (nI_leI hj hb).mp h.2, rfl⟩
/-- the first n places of the array c become f -/
def setRow (S : St) (c : Nat) (f : Nat → Int32) (n : Nat) : St := (fun d i => if d = c ∧ i < n then f i else S.1 d i, S.2)
theorem setRow_0 (S : St) (c : Nat) (f : Nat → Int32) : setRow S c f 0 = S := by
  unfold setRow
  refine Prod.ext ?_ rfl
  funext d i
  simp
theorem setRow_at {S : St} {c : Nat} {f : Nat → Int32} {n i : Nat} (h : i < n) : (setRow S c f n).1 c i = f i := by simp [setRow, h]
theorem setRow_hi {S : St} {c d : Nat} {f : Nat → Int32} {n i : Nat} (h : ¬ i < n) : (setRow S c f n).1 d i = S.1 d i := by simp [setRow, h]
theorem setRow_ne {S : St} {c d : Nat} {f : Nat → Int32} {n i : Nat} (h : d ≠ c) : (setRow S c f n).1 d i = S.1 d i := by simp [setRow, h]
theorem setRow_row {S : St} {c d : Nat} {f : Nat → Int32} {n : Nat} (h : d ≠ c) : (setRow S c f n).1 d = S.1 d := by funext i; exact setRow_ne h
theorem setRow_s {S : St} {c : Nat} {f : Nat → Int32} {n : Nat} {v : Int32} (h : v = f n) : put (setRow S c f n) c n v = setRow S c f (n + 1) := by
  subst h
  refine Prod.ext ?_ rfl
  funext d i
  show up2 _ c n (f n) d i = if d = c ∧ i < n + 1 then f i else S.1 d i
  by_cases h1 : d = c ∧ i = n
  · obtain ⟨rfl, rfl⟩ := h1
    rw [up2_same, if_pos ⟨rfl, Nat.lt_succ_self _⟩]
  · rw [up2_ne h1]
    show (if d = c ∧ i < n then f i else S.1 d i) = _
    by_cases h2 : d = c ∧ i < n
    · rw [if_pos h2, if_pos ⟨h2.1, by omega⟩]
    · rw [if_neg h2, if_neg (fun q => h2 ⟨q.1, by have := q.2; have : i ≠ n := fun z => h1 ⟨q.1, z⟩; omega⟩)]
theorem setRow_congr {S : St} {c : Nat} {f g : Nat → Int32} {n : Nat} (h : ∀ i, i < n → f i = g i) : setRow S c f n = setRow S c g n := by
  refine Prod.ext ?_ rfl
  funext d i
  show (if d = c ∧ i < n then f i else S.1 d i) = if d = c ∧ i < n then g i else S.1 d i
  by_cases h1 : d = c ∧ i < n
  · rw [if_pos h1, if_pos h1, h i h1.2]
  · rw [if_neg h1, if_neg h1]
def pt (a b c d : Int32) : Nat → Int32 := fun i => match i with
  | 0 => a
  | 1 => b
  | 2 => c
  | _ => d
/-- a step of a turn: 1 to 4, either sign -/
def okStep (s : Int32) : Prop := ∃ j, j < 4 ∧ (s = nI (j + 1) ∨ s = -nI (j + 1))
def absI (v : Int32) : Int32 := if 0 ≤ v then v else -v
def ax (s : Int32) : Nat := (absI s).toNatClampNeg - 1
def tval (s : Int32) (g : Nat → Int32) : Int32 := if s < 0 then -(g (ax s)) else g (ax s)
theorem okStep_ax {s : Int32} (h : okStep s) : absI s - nI 1 = nI (ax s) ∧ ax s < 4 := by
  obtain ⟨j, hj, h⟩ := h
  have h4 : j = 0 ∨ j = 1 ∨ j = 2 ∨ j = 3 := by omega
  rcases h4 with rfl | rfl | rfl | rfl <;> rcases h with rfl | rfl <;> exact ⟨by decide +kernel, by decide +kernel⟩
def fdv (a b : Int32) : Int32 := if (a ^^^ b) < 0 then if a / b * b = a then a / b else a / b - nI 1 else a / b
theorem near_congr {d e : Nat → Int32} : ∀ {n : Nat}, (∀ j, j < n → d j = e j) → near d n = near e n
  | 0, _ => rfl
  | 1, _ => by rw [near_1, near_1]
  | n + 2, h => by
    have ih := near_congr (n := n + 1) (fun j hj => h j (by omega))
    have hl := near_lt e (n + 1) (by omega)
    show (if d (n + 1) < d (near d (n + 1)) then n + 1 else near d (n + 1)) = (if e (n + 1) < e (near e (n + 1)) then n + 1 else near e (n + 1))
    rw [ih, h (n + 1) (by omega), h _ (by omega)]
/-- one place of each of the n rows from b on -/
def setCol (S : St) (b i0 : Nat) (f : Nat → Int32) (n : Nat) : St := (fun c i => if b ≤ c ∧ c < b + n ∧ i = i0 then f (c - b) else S.1 c i, S.2)
theorem setCol_0 (S : St) (b i0 : Nat) (f : Nat → Int32) : setCol S b i0 f 0 = S := by
  refine Prod.ext ?_ rfl
  funext c i
  show (if b ≤ c ∧ c < b + 0 ∧ i = i0 then f (c - b) else S.1 c i) = S.1 c i
  rw [if_neg (by omega)]
theorem setCol_s {S : St} {b i0 : Nat} {f : Nat → Int32} {n : Nat} {v : Int32} (h : v = f n) : put (setCol S b i0 f n) (b + n) i0 v = setCol S b i0 f (n + 1) := by
  subst h
  refine Prod.ext ?_ rfl
  funext c i
  show up2 (setCol S b i0 f n).1 (b + n) i0 (f n) c i = if b ≤ c ∧ c < b + (n + 1) ∧ i = i0 then f (c - b) else S.1 c i
  by_cases h1 : c = b + n ∧ i = i0
  · obtain ⟨rfl, rfl⟩ := h1
    rw [up2_same, if_pos (by omega), Nat.add_sub_cancel_left]
  · rw [up2_ne h1]
    show (if b ≤ c ∧ c < b + n ∧ i = i0 then f (c - b) else S.1 c i) = _
    by_cases h2 : b ≤ c ∧ c < b + n ∧ i = i0
    · rw [if_pos h2, if_pos (by omega)]
    · rw [if_neg h2, if_neg (fun q => h2 ⟨q.1, by
        have : ¬ c = b + n := fun z => h1 ⟨z, q.2.2⟩
        omega, q.2.2⟩)]
theorem setCol_at {S : St} {b i0 : Nat} {f : Nat → Int32} {n j : Nat} (h : j < n) : (setCol S b i0 f n).1 (b + j) i0 = f j := by
  show (if b ≤ b + j ∧ b + j < b + n ∧ i0 = i0 then f (b + j - b) else S.1 (b + j) i0) = f j
  rw [if_pos (by omega), Nat.add_sub_cancel_left]
theorem setCol_ne {S : St} {b i0 c i : Nat} {f : Nat → Int32} {n : Nat} (h : ¬ (b ≤ c ∧ c < b + n ∧ i = i0)) : (setCol S b i0 f n).1 c i = S.1 c i := if_neg h
theorem w_getIV {M : Mt} {pc : Nat} {L st : List Value} {S : St} {Z : Option Value → St → Prop} {idx ci k a : Nat} {v : Int32} (hd : decode M.2.1 pc = .ok (.getfield idx, 3)) (hf : FL M.1.cls idx ci k) (ha : a < 204) (hk : kd a = 4 + ci) (hv : fref a k = none) (he : S.1 a k = v) (h : Wp M (pc + 3) L (.int v :: st) S Z) : Wp M pc L (.ref a :: st) S Z := w_getI hd hf ha hk hv (by rw [he]; exact h)
theorem w_ialdNV {M : Mt} {pc : Nat} {L st : List Value} {S : St} {Z : Option Value → St → Prop} {a n : Nat} {v : Int32} (hd : decode M.2.1 pc = .ok (.iaload, 1)) (ha : a < 204) (hk : kd a = 0) (hn : n < ln a) (he : S.1 a n = v) (h : Wp M (pc + 1) L (.int v :: st) S Z) : Wp M pc L (.int (nI n) :: .ref a :: st) S Z := w_ialdN hd ha hk hn (by rw [he]; exact h)
theorem w_baldNV {M : Mt} {pc : Nat} {L st : List Value} {S : St} {Z : Option Value → St → Prop} {a n : Nat} {v : Int32} (hd : decode M.2.1 pc = .ok (.baload, 1)) (ha : a < 204) (hk : kd a = 1) (hn : n < ln a) (he : S.1 a n = v) (h : Wp M (pc + 1) L (.int v :: st) S Z) : Wp M pc L (.int (nI n) :: .ref a :: st) S Z := w_baldN hd ha hk hn (by rw [he]; exact h)
/-- a computed number gets another form -/
theorem w_top {M : Mt} {pc : Nat} {L st : List Value} {S : St} {Z : Option Value → St → Prop} {v w : Int32} (he : v = w) (h : Wp M pc L (.int w :: st) S Z) : Wp M pc L (.int v :: st) S Z := by rw [he]; exact h
def bitOf (t : Int32) : Int32 := if 1 ≤ t ∧ t ≤ 4 then 1 <<< (t &&& 31) else if t ≤ -1 ∧ -4 ≤ t then 1 <<< (-t &&& 31) else 0
def turnOK (a b c d : Int32) : Bool := decide ((bitOf a ||| bitOf b ||| bitOf c ||| bitOf d) = 30)
def badPt (x y z w : Int32) : Bool := !(decide ((-100 ≤ x ∧ x ≤ nI 100) ∧ (-100 ≤ y ∧ y ≤ nI 100) ∧ (-100 ≤ z ∧ z ≤ nI 100) ∧ (-100 ≤ w ∧ w ≤ nI 100)))
theorem near_no {d : Nat → Int32} {k : Nat} (h : d (near d k) ≤ d k) : near d (k + 1) = near d k := by
  show (if d k < d (near d k) then k else near d k) = _
  rw [if_neg (Int32.not_lt.mpr h)]
theorem near_yes {d : Nat → Int32} {k : Nat} (h : ¬ d (near d k) ≤ d k) : near d (k + 1) = k := by
  show (if d k < d (near d k) then k else near d k) = _
  rw [if_pos (Int32.not_le.mp h)]
end
section
set_option maxRecDepth 100000 in
set_option maxHeartbeats 4000000 in
theorem c_q_isWithin (S : St) (v lo hi : Int32) : Ev M_q_isWithin [.int v, .int lo, .int hi] S (fun v9 S' => v9 = some (.int (bI (decide (lo ≤ v ∧ v ≤ hi)))) ∧ S' = S) := by
  refine Ev.of MF_q_isWithin (all_cat rfl) (Nat.le_of_ble_eq_true rfl) ?_
  show Wp M_q_isWithin 0 [.int v, .int lo, .int hi] [] _ _
  refine w_iload_n d_q_isWithin_0 rfl ?_
  refine w_iload_n d_q_isWithin_1 rfl ?_
  refine w_icmp_lt 14 d_q_isWithin_2 (by decide) (fun h2 => ?_) (fun h2 => ?_)
  · refine w_iconst (v := nI 0) d_q_isWithin_14 (by decide +kernel) ?_
    refine w_zret (st := []) rfl d_q_isWithin_15 (by decide) ?_
    exact ⟨rb0 (decide_eq_false (fun q => absurd h2 (Int32.not_lt.mpr q.1))), rfl⟩
  · refine w_iload_n d_q_isWithin_5 rfl ?_
    refine w_iload_n d_q_isWithin_6 rfl ?_
    refine w_icmp_gt 14 d_q_isWithin_7 (by decide) (fun h7 => ?_) (fun h7 => ?_)
    · refine w_iconst (v := nI 0) d_q_isWithin_14 (by decide +kernel) ?_
      refine w_zret (st := []) rfl d_q_isWithin_15 (by decide) ?_
      exact ⟨rb0 (decide_eq_false (fun q => absurd h7 (Int32.not_lt.mpr q.2))), rfl⟩
    · refine w_iconst (v := nI 1) d_q_isWithin_10 (by decide +kernel) ?_
      refine w_goto 15 d_q_isWithin_11 (by decide) ?_
      refine w_zret (st := []) rfl d_q_isWithin_15 (by decide) ?_
      exact ⟨rb1 (decide_eq_true ⟨Int32.not_lt.mp h2, Int32.not_lt.mp h7⟩), rfl⟩
set_option maxRecDepth 100000 in
set_option maxHeartbeats 4000000 in
theorem c_m_within (S : St) (v lo hi : Int32) : Ev M_m_within [.int v, .int lo, .int hi] S (fun v9 S' => v9 = some (.int (bI (decide (lo ≤ v ∧ v ≤ hi)))) ∧ S' = S) := by
  refine Ev.of MF_m_within (all_cat rfl) (Nat.le_of_ble_eq_true rfl) ?_
  show Wp M_m_within 0 [.int v, .int lo, .int hi] [] _ _
  refine w_iload_n d_m_within_0 rfl ?_
  refine w_iload_n d_m_within_1 rfl ?_
  refine w_icmp_lt 14 d_m_within_2 (by decide) (fun h2 => ?_) (fun h2 => ?_)
  · refine w_iconst (v := nI 0) d_m_within_14 (by decide +kernel) ?_
    refine w_zret (st := []) rfl d_m_within_15 (by decide) ?_
    exact ⟨rb0 (decide_eq_false (fun q => absurd h2 (Int32.not_lt.mpr q.1))), rfl⟩
  · refine w_iload_n d_m_within_5 rfl ?_
    refine w_iload_n d_m_within_6 rfl ?_
    refine w_icmp_gt 14 d_m_within_7 (by decide) (fun h7 => ?_) (fun h7 => ?_)
    · refine w_iconst (v := nI 0) d_m_within_14 (by decide +kernel) ?_
      refine w_zret (st := []) rfl d_m_within_15 (by decide) ?_
      exact ⟨rb0 (decide_eq_false (fun q => absurd h7 (Int32.not_lt.mpr q.2))), rfl⟩
    · refine w_iconst (v := nI 1) d_m_within_10 (by decide +kernel) ?_
      refine w_goto 15 d_m_within_11 (by decide) ?_
      refine w_zret (st := []) rfl d_m_within_15 (by decide) ?_
      exact ⟨rb1 (decide_eq_true ⟨Int32.not_lt.mp h2, Int32.not_lt.mp h7⟩), rfl⟩
set_option maxRecDepth 100000 in
set_option maxHeartbeats 4000000 in
theorem c_q_isBad (S : St) (a b c d : Int32) : Ev M_q_isBad [.int a, .int b, .int c, .int d] S (fun v9 S' => v9 = some (.int (bI (badPt a b c d))) ∧ S' = S) := by
  refine Ev.of MF_q_isBad (all_cat rfl) (Nat.le_of_ble_eq_true rfl) ?_
  show Wp M_q_isBad 0 [.int a, .int b, .int c, .int d] [] _ _
  refine w_iload_n d_q_isBad_0 rfl ?_
  refine w_bipush (v := -100) d_q_isBad_1 (by decide +kernel) ?_
  refine w_bipush (v := nI 100) d_q_isBad_3 (by decide +kernel) ?_
  refine w_callS3 (N := M_q_isWithin) d_q_isBad_5 LK_q_86 MF_q_isWithin MS_q_isWithin NP_q_isWithin (by decide) rfl (Nat.le_of_ble_eq_true rfl) ?_
  refine Ev.det (c_q_isWithin _ _ _ _) ?_
  refine w_if_eqB 44 d_q_isBad_8 (by decide) (fun h8 => ?_) (fun h8 => ?_)
  · refine w_iconst (v := nI 1) d_q_isBad_44 (by decide +kernel) ?_
    refine w_goto 49 d_q_isBad_45 (by decide) ?_
    refine w_zret (st := []) rfl d_q_isBad_49 (by decide) ?_
    exact ⟨rb1 (by unfold badPt; rw [Bool.not_eq_true', decide_eq_false_iff_not]; intro q; have q1 := of_decide_eq_false h8; exact q1 (by first | exact q.1 | exact q.2.1 | exact q.2.2.1 | exact q.2.2.2)), rfl⟩
  · refine w_iload_n d_q_isBad_11 rfl ?_
    refine w_bipush (v := -100) d_q_isBad_12 (by decide +kernel) ?_
    refine w_bipush (v := nI 100) d_q_isBad_14 (by decide +kernel) ?_
    refine w_callS3 (N := M_q_isWithin) d_q_isBad_16 LK_q_86 MF_q_isWithin MS_q_isWithin NP_q_isWithin (by decide) rfl (Nat.le_of_ble_eq_true rfl) ?_
    refine Ev.det (c_q_isWithin _ _ _ _) ?_
    refine w_if_eqB 44 d_q_isBad_19 (by decide) (fun h19 => ?_) (fun h19 => ?_)
    · refine w_iconst (v := nI 1) d_q_isBad_44 (by decide +kernel) ?_
      refine w_goto 49 d_q_isBad_45 (by decide) ?_
      refine w_zret (st := []) rfl d_q_isBad_49 (by decide) ?_
      exact ⟨rb1 (by unfold badPt; rw [Bool.not_eq_true', decide_eq_false_iff_not]; intro q; have q1 := of_decide_eq_false h19; exact q1 (by first | exact q.1 | exact q.2.1 | exact q.2.2.1 | exact q.2.2.2)), rfl⟩
    · refine w_iload_n d_q_isBad_22 rfl ?_
      refine w_bipush (v := -100) d_q_isBad_23 (by decide +kernel) ?_
      refine w_bipush (v := nI 100) d_q_isBad_25 (by decide +kernel) ?_
      refine w_callS3 (N := M_q_isWithin) d_q_isBad_27 LK_q_86 MF_q_isWithin MS_q_isWithin NP_q_isWithin (by decide) rfl (Nat.le_of_ble_eq_true rfl) ?_
      refine Ev.det (c_q_isWithin _ _ _ _) ?_
      refine w_if_eqB 44 d_q_isBad_30 (by decide) (fun h30 => ?_) (fun h30 => ?_)
      · refine w_iconst (v := nI 1) d_q_isBad_44 (by decide +kernel) ?_
        refine w_goto 49 d_q_isBad_45 (by decide) ?_
        refine w_zret (st := []) rfl d_q_isBad_49 (by decide) ?_
        exact ⟨rb1 (by unfold badPt; rw [Bool.not_eq_true', decide_eq_false_iff_not]; intro q; have q1 := of_decide_eq_false h30; exact q1 (by first | exact q.1 | exact q.2.1 | exact q.2.2.1 | exact q.2.2.2)), rfl⟩
      · refine w_iload_n d_q_isBad_33 rfl ?_
        refine w_bipush (v := -100) d_q_isBad_34 (by decide +kernel) ?_
        refine w_bipush (v := nI 100) d_q_isBad_36 (by decide +kernel) ?_
        refine w_callS3 (N := M_q_isWithin) d_q_isBad_38 LK_q_86 MF_q_isWithin MS_q_isWithin NP_q_isWithin (by decide) rfl (Nat.le_of_ble_eq_true rfl) ?_
        refine Ev.det (c_q_isWithin _ _ _ _) ?_
        refine w_if_neB 48 d_q_isBad_41 (by decide) (fun h41 => ?_) (fun h41 => ?_)
        · refine w_iconst (v := nI 0) d_q_isBad_48 (by decide +kernel) ?_
          refine w_zret (st := []) rfl d_q_isBad_49 (by decide) ?_
          exact ⟨rb0 (by unfold badPt; rw [Bool.not_eq_false']; exact decide_eq_true ⟨of_decide_eq_true h8, of_decide_eq_true h19, of_decide_eq_true h30, of_decide_eq_true h41⟩), rfl⟩
        · refine w_iconst (v := nI 1) d_q_isBad_44 (by decide +kernel) ?_
          refine w_goto 49 d_q_isBad_45 (by decide) ?_
          refine w_zret (st := []) rfl d_q_isBad_49 (by decide) ?_
          exact ⟨rb1 (by unfold badPt; rw [Bool.not_eq_true', decide_eq_false_iff_not]; intro q; have q1 := of_decide_eq_false h41; exact q1 (by first | exact q.1 | exact q.2.1 | exact q.2.2.1 | exact q.2.2.2)), rfl⟩
set_option maxRecDepth 100000 in
set_option maxHeartbeats 4000000 in
theorem c_q_setPoint (S : St) (r : Nat) (a b c d : Int32) (hr1 : r < 204) (hr2 : kd r = 0) (hr3 : ln r = 4) : Ev M_q_setPoint [.ref r, .int a, .int b, .int c, .int d] S (fun v9 S' => v9 = none ∧ S' = setRow S r (pt a b c d) 4) := by
  refine Ev.of MF_q_setPoint (all_cat rfl) (Nat.le_of_ble_eq_true rfl) ?_
  show Wp M_q_setPoint 0 [.ref r, .int a, .int b, .int c, .int d] [] _ _
  refine w_aload_n d_q_setPoint_0 rfl ?_
  refine w_iconst (v := nI 0) d_q_setPoint_1 (by decide +kernel) ?_
  refine w_iload_n d_q_setPoint_2 rfl ?_
  refine w_iastNP d_q_setPoint_3 (hr1) (hr2) (show 0 < ln r by rw [hr3]; omega) ?_
  refine w_aload_n d_q_setPoint_4 rfl ?_
  refine w_iconst (v := nI 1) d_q_setPoint_5 (by decide +kernel) ?_
  refine w_iload_n d_q_setPoint_6 rfl ?_
  refine w_iastNP d_q_setPoint_7 (hr1) (hr2) (show 1 < ln r by rw [hr3]; omega) ?_
  refine w_aload_n d_q_setPoint_8 rfl ?_
  refine w_iconst (v := nI 2) d_q_setPoint_9 (by decide +kernel) ?_
  refine w_iload_n d_q_setPoint_10 rfl ?_
  show Wp _ 11 _ _ _ _
  refine w_iastNP d_q_setPoint_11 (hr1) (hr2) (show 2 < ln r by rw [hr3]; omega) ?_
  refine w_aload_n d_q_setPoint_12 rfl ?_
  refine w_iconst (v := nI 3) d_q_setPoint_13 (by decide +kernel) ?_
  refine w_iload d_q_setPoint_14 rfl ?_
  refine w_iastNP d_q_setPoint_16 (hr1) (hr2) (show 3 < ln r by rw [hr3]; omega) ?_
  refine w_ret (st := []) rfl d_q_setPoint_17 ?_
  refine ⟨rfl, ?_⟩
  rw [← setRow_s (f := pt a b c d) (n := 3) rfl, ← setRow_s (f := pt a b c d) (n := 2) rfl, ← setRow_s (f := pt a b c d) (n := 1) rfl, ← setRow_s (f := pt a b c d) (n := 0) rfl, setRow_0]
  rfl
def parts (k : Int32) : Nat := if k = 0 then 2 else if k = 1 then 4 else 0
def pwid (k : Int32) : Nat := if k = 0 then 2 else if k = 1 then 1 else 0
theorem parts_le (k : Int32) : parts k ≤ 4 := by unfold parts; (repeat' split) <;> omega
theorem pwid_le (k : Int32) : pwid k ≤ 2 := by unfold pwid; (repeat' split) <;> omega
set_option maxRecDepth 100000 in
set_option maxHeartbeats 4000000 in
theorem c_q_partsOf (S : St) (kind : Int32) : Ev M_q_partsOf [.int kind] S (fun v9 S' => v9 = some (.int (nI (parts kind))) ∧ S' = S) := by
  refine Ev.of MF_q_partsOf (all_cat rfl) (Nat.le_of_ble_eq_true rfl) ?_
  show Wp M_q_partsOf 0 [.int kind] [] _ _
  refine w_iload_n d_q_partsOf_0 rfl ?_
  refine w_if_ne 6 d_q_partsOf_1 (by decide) (fun h1 => ?_) (fun h1 => ?_)
  · refine w_iload_n d_q_partsOf_6 rfl ?_
    refine w_iconst (v := nI 1) d_q_partsOf_7 (by decide +kernel) ?_
    refine w_icmp_ne 15 d_q_partsOf_8 (by decide) (fun h8 => ?_) (fun h8 => ?_)
    · refine w_iconst (v := nI 0) d_q_partsOf_15 (by decide +kernel) ?_
      refine w_iret (st := []) rfl d_q_partsOf_16 ?_
      refine ⟨?_, rfl⟩
      have e1 : (nI 1 : Int32) = 1 := by decide
      have e0 : (nI 0 : Int32) = 0 := by decide
      simp_all [parts]
    · refine w_iconst (v := nI 4) d_q_partsOf_11 (by decide +kernel) ?_
      refine w_goto 16 d_q_partsOf_12 (by decide) ?_
      refine w_iret (st := []) rfl d_q_partsOf_16 ?_
      refine ⟨?_, rfl⟩
      have e1 : (nI 1 : Int32) = 1 := by decide
      have e0 : (nI 0 : Int32) = 0 := by decide
      simp_all [parts]
  · refine w_iconst (v := nI 2) d_q_partsOf_4 (by decide +kernel) ?_
    refine w_iret (st := []) rfl d_q_partsOf_5 ?_
    refine ⟨?_, rfl⟩
    have e1 : (nI 1 : Int32) = 1 := by decide
    have e0 : (nI 0 : Int32) = 0 := by decide
    simp_all [parts]
set_option maxRecDepth 100000 in
set_option maxHeartbeats 4000000 in
theorem c_q_partWidthOf (S : St) (kind : Int32) : Ev M_q_partWidthOf [.int kind] S (fun v9 S' => v9 = some (.int (nI (pwid kind))) ∧ S' = S) := by
  refine Ev.of MF_q_partWidthOf (all_cat rfl) (Nat.le_of_ble_eq_true rfl) ?_
  show Wp M_q_partWidthOf 0 [.int kind] [] _ _
  refine w_iload_n d_q_partWidthOf_0 rfl ?_
  refine w_if_ne 6 d_q_partWidthOf_1 (by decide) (fun h1 => ?_) (fun h1 => ?_)
  · refine w_iload_n d_q_partWidthOf_6 rfl ?_
    refine w_iconst (v := nI 1) d_q_partWidthOf_7 (by decide +kernel) ?_
    refine w_icmp_ne 15 d_q_partWidthOf_8 (by decide) (fun h8 => ?_) (fun h8 => ?_)
    · refine w_iconst (v := nI 0) d_q_partWidthOf_15 (by decide +kernel) ?_
      refine w_iret (st := []) rfl d_q_partWidthOf_16 ?_
      refine ⟨?_, rfl⟩
      have e1 : (nI 1 : Int32) = 1 := by decide
      have e0 : (nI 0 : Int32) = 0 := by decide
      simp_all [pwid]
    · refine w_iconst (v := nI 1) d_q_partWidthOf_11 (by decide +kernel) ?_
      refine w_goto 16 d_q_partWidthOf_12 (by decide) ?_
      refine w_iret (st := []) rfl d_q_partWidthOf_16 ?_
      refine ⟨?_, rfl⟩
      have e1 : (nI 1 : Int32) = 1 := by decide
      have e0 : (nI 0 : Int32) = 0 := by decide
      simp_all [pwid]
  · refine w_iconst (v := nI 2) d_q_partWidthOf_4 (by decide +kernel) ?_
    refine w_iret (st := []) rfl d_q_partWidthOf_5 ?_
    refine ⟨?_, rfl⟩
    have e1 : (nI 1 : Int32) = 1 := by decide
    have e0 : (nI 0 : Int32) = 0 := by decide
    simp_all [pwid]
set_option maxRecDepth 100000 in
set_option maxHeartbeats 4000000 in
theorem c_q_wordRow (S : St) (p n : Nat) : Ev M_q_wordRow [.int (nI p), .int (nI n)] S (fun v9 S' => v9 = some (.int (nI (p * 4 + n))) ∧ S' = S) := by
  refine Ev.of MF_q_wordRow (all_cat rfl) (Nat.le_of_ble_eq_true rfl) ?_
  show Wp M_q_wordRow 0 [.int (nI p), .int (nI n)] [] _ _
  refine w_iload_n d_q_wordRow_0 rfl ?_
  refine w_iconst (v := nI 4) d_q_wordRow_1 (by decide +kernel) ?_
  refine w_imulN d_q_wordRow_2 ?_
  refine w_iload_n d_q_wordRow_3 rfl ?_
  refine w_iaddN d_q_wordRow_4 ?_
  refine w_iret (st := []) rfl d_q_wordRow_5 ?_
  exact ⟨rfl, rfl⟩
set_option maxRecDepth 100000 in
set_option maxHeartbeats 4000000 in
theorem c_q_subtract (S : St) (p c l : Nat) (hp1 : p < 204) (hp2 : kd p = 0) (hp3 : ln p = 4) (hc1 : c < 204) (hc2 : kd c = 0) (hc3 : ln c = 4) (hl1 : l < 204) (hl2 : kd l = 0) (hl3 : ln l = 4) (hcl : c ≠ l) : Ev M_q_subtract [.ref p, .ref c, .ref l] S (fun v9 S' => v9 = none ∧ S' = setRow S l (fun k => S.1 p k - S.1 c k) 4) := by
  refine Ev.of MF_q_subtract (all_cat rfl) (Nat.le_of_ble_eq_true rfl) ?_
  show Wp M_q_subtract 0 [.ref p, .ref c, .ref l, .null] [] _ _
  have hk0 : ∀ k, k ≤ 4 → ∀ (S1 : St), S1 = setRow S l (fun k => S.1 p k - S.1 c k) k → Wp M_q_subtract 2 [.ref p, .ref c, .ref l, .int (nI k)] [] S1 (fun v9 S' => v9 = none ∧ S' = setRow S l (fun k => S.1 p k - S.1 c k) 4) := by
    refine loopUp (4) (fun k hk9 hn => ?_)
    intro S1 hS
    refine w_iload_n d_q_subtract_2 rfl ?_
    refine w_iconst (v := nI 4) d_q_subtract_3 (by decide +kernel) ?_
    refine w_icmp_geN 23 d_q_subtract_4 (by decide) (by omega) (by omega) (fun h4 => ?_) (fun h4 => ?_)
    · refine w_ret (st := []) rfl d_q_subtract_23 ?_
      obtain rfl : k = 4 := by omega
      exact ⟨rfl, hS⟩
    · refine w_aload_n d_q_subtract_7 rfl ?_
      refine w_iload_n d_q_subtract_8 rfl ?_
      refine w_aload_n d_q_subtract_9 rfl ?_
      refine w_iload_n d_q_subtract_10 rfl ?_
      refine w_ialdN d_q_subtract_11 (hp1) (hp2) (show k < ln p by rw [hp3]; omega) ?_
      refine w_aload_n d_q_subtract_12 rfl ?_
      refine w_iload_n d_q_subtract_13 rfl ?_
      refine w_ialdN d_q_subtract_14 (hc1) (hc2) (show k < ln c by rw [hc3]; omega) ?_
      refine w_isub d_q_subtract_15 ?_
      refine w_iastNP d_q_subtract_16 (hl1) (hl2) (show k < ln l by rw [hl3]; omega) ?_
      refine w_iincN d_q_subtract_17 rfl ?_
      show Wp _ 20 _ _ _ _
      refine w_goto 2 d_q_subtract_20 (by decide) ?_
      refine hn h4 _ ?_
      subst hS
      refine setRow_s ?_
      rw [setRow_ne hcl]
      by_cases hpl : p = l
      · subst hpl; rw [setRow_hi (by omega)]
      · rw [setRow_ne hpl]
  refine w_iconst (v := nI 0) d_q_subtract_0 (by decide +kernel) ?_
  refine w_istore_n d_q_subtract_1 (Nat.le_of_ble_eq_true rfl) ?_
  exact hk0 0 (by omega) _ (setRow_0 _ _ _).symm
set_option maxRecDepth 100000 in
set_option maxHeartbeats 4000000 in
theorem c_q_distance (S : St) (r p fr w : Nat) (hr1 : r < 204) (hr2 : kd r = 0) (hr3 : w ≤ ln r) (hp1 : p < 204) (hp2 : kd p = 0) (hp3 : fr + w ≤ ln p) (hw : w ≤ 4) : Ev M_q_distance [.ref r, .ref p, .int (nI fr), .int (nI w)] S (fun v9 S' => v9 = some (.int (dst (S.1 r) (fun k => S.1 p (fr + k)) w)) ∧ S' = S) := by
  refine Ev.of MF_q_distance (all_cat rfl) (Nat.le_of_ble_eq_true rfl) ?_
  show Wp M_q_distance 0 [.ref r, .ref p, .int (nI fr), .int (nI w), .null, .null, .null] [] _ _
  have hk0 : ∀ k, k ≤ w → ∀ x6 : Value, Wp M_q_distance 6 [.ref r, .ref p, .int (nI fr), .int (nI w), .int ((dst (S.1 r) (fun k => S.1 p (fr + k)) k)), .int (nI k), x6] [] S (fun v S' => v = some (.int (dst (S.1 r) (fun k => S.1 p (fr + k)) w)) ∧ S' = S) := by
    refine loopUp w (fun k hk hn => ?_)
    intro x6
    refine w_iload d_q_distance_6 rfl ?_
    refine w_iload_n d_q_distance_8 rfl ?_
    refine w_icmp_geN 41 d_q_distance_9 (by decide) (by omega) (by omega) (fun h9 => ?_) (fun h9 => ?_)
    · refine w_iload d_q_distance_41 rfl ?_
      refine w_iret (st := []) rfl d_q_distance_43 ?_
      obtain rfl : k = w := by omega
      exact ⟨rfl, rfl⟩
    · refine w_aload_n d_q_distance_12 rfl ?_
      refine w_iload d_q_distance_13 rfl ?_
      refine w_ialdN d_q_distance_15 (hr1) (hr2) (by omega) ?_
      refine w_aload_n d_q_distance_16 rfl ?_
      refine w_iload_n d_q_distance_17 rfl ?_
      refine w_iload d_q_distance_18 rfl ?_
      refine w_iaddN d_q_distance_20 ?_
      refine w_ialdN d_q_distance_21 (hp1) (hp2) (by omega) ?_
      refine w_isub d_q_distance_22 ?_
      refine w_istore d_q_distance_23 (Nat.le_of_ble_eq_true rfl) ?_
      refine w_iload d_q_distance_25 rfl ?_
      show Wp _ 27 _ _ _ _
      refine w_iload d_q_distance_27 rfl ?_
      refine w_iload d_q_distance_29 rfl ?_
      refine w_imul d_q_distance_31 ?_
      refine w_iadd d_q_distance_32 ?_
      refine w_istore d_q_distance_33 (Nat.le_of_ble_eq_true rfl) ?_
      refine w_iincN d_q_distance_35 rfl ?_
      refine w_goto 6 d_q_distance_38 (by decide) ?_
      exact hn (by omega) _
  refine w_iconst (v := nI 0) d_q_distance_0 (by decide +kernel) ?_
  refine w_istore d_q_distance_1 (Nat.le_of_ble_eq_true rfl) ?_
  refine w_iconst (v := nI 0) d_q_distance_3 (by decide +kernel) ?_
  refine w_istore d_q_distance_4 (Nat.le_of_ble_eq_true rfl) ?_
  exact hk0 0 (by omega) _
set_option maxRecDepth 100000 in
set_option maxHeartbeats 4000000 in
theorem c_q_nearestRow (S : St) (g first n p fr w : Nat) (hg1 : g < 204) (hg2 : kd g = 2) (hg3 : first + n ≤ ln g) (h0 : 0 < n) (hn4 : n < 100) (hrow : ∀ j, j < n → gbase g + (first + j) < 204 ∧ kd (gbase g + (first + j)) = 0 ∧ w ≤ ln (gbase g + (first + j))) (hp1 : p < 204) (hp2 : kd p = 0) (hp3 : fr + w ≤ ln p) (hw : w ≤ 4) : Ev M_q_nearestRow [.ref g, .int (nI first), .int (nI n), .ref p, .int (nI fr), .int (nI w)] S (fun v9 S' => v9 = some (.int (nI (near (fun j => dst (S.1 (gbase g + (first + j))) (fun k => S.1 p (fr + k)) w) n))) ∧ S' = S) := by
  refine Ev.of MF_q_nearestRow (all_cat rfl) (Nat.le_of_ble_eq_true rfl) ?_
  show Wp M_q_nearestRow 0 [.ref g, .int (nI first), .int (nI n), .ref p, .int (nI fr), .int (nI w), .null, .null, .null, .null] [] _ _
  have hk0 : ∀ k, k ≤ n → ∀ (b : Nat) (x9 : Value), 1 ≤ k → b = near (fun j => dst (S.1 (gbase g + (first + j))) (fun k => S.1 p (fr + k)) w) k → Wp M_q_nearestRow 19 [.ref g, .int (nI first), .int (nI n), .ref p, .int (nI fr), .int (nI w), .int (nI b), .int (((fun j => dst (S.1 (gbase g + (first + j))) (fun k => S.1 p (fr + k)) w) b)), .int (nI k), x9] [] S (fun v9 S' => v9 = some (.int (nI (near (fun j => dst (S.1 (gbase g + (first + j))) (fun k => S.1 p (fr + k)) w) n))) ∧ S' = S) := by
    refine loopUp n (fun k hk hn => ?_)
    intro b x9 h1 hb
    refine w_iload d_q_nearestRow_19 rfl ?_
    refine w_iload_n d_q_nearestRow_21 rfl ?_
    refine w_icmp_geN 62 d_q_nearestRow_22 (by decide) (by omega) (by omega) (fun h22 => ?_) (fun h22 => ?_)
    · refine w_iload d_q_nearestRow_62 rfl ?_
      refine w_iret (st := []) rfl d_q_nearestRow_64 ?_
      obtain rfl : k = n := by omega
      exact ⟨by rw [hb], rfl⟩
    · refine w_aload_n d_q_nearestRow_25 rfl ?_
      refine w_iload_n d_q_nearestRow_26 rfl ?_
      refine w_iload d_q_nearestRow_27 rfl ?_
      refine w_iaddN d_q_nearestRow_29 ?_
      refine w_aaldN d_q_nearestRow_30 (hg1) (hg2) (by omega) ?_
      refine w_aload_n d_q_nearestRow_31 rfl ?_
      refine w_iload d_q_nearestRow_32 rfl ?_
      refine w_iload d_q_nearestRow_34 rfl ?_
      refine w_callS4 (N := M_q_distance) d_q_nearestRow_36 LK_q_312 MF_q_distance MS_q_distance NP_q_distance (by decide) rfl (Nat.le_of_ble_eq_true rfl) ?_
      refine Ev.det (c_q_distance _ _ _ _ _ (hrow k h22).1 (hrow k h22).2.1 (hrow k h22).2.2 hp1 hp2 hp3 hw) ?_
      refine w_istore d_q_nearestRow_39 (Nat.le_of_ble_eq_true rfl) ?_
      refine w_iload d_q_nearestRow_41 rfl ?_
      show Wp _ 43 _ _ _ _
      refine w_iload d_q_nearestRow_43 rfl ?_
      refine w_icmp_ge 56 d_q_nearestRow_45 (by decide) (fun h45 => ?_) (fun h45 => ?_)
      · refine w_iincN d_q_nearestRow_56 rfl ?_
        refine w_goto 19 d_q_nearestRow_59 (by decide) ?_
        exact hn h22 _ _ (by omega) (by rw [near_no (by rw [← hb]; exact h45)]; exact hb)
      · refine w_iload d_q_nearestRow_48 rfl ?_
        refine w_istore d_q_nearestRow_50 (Nat.le_of_ble_eq_true rfl) ?_
        refine w_iload d_q_nearestRow_52 rfl ?_
        refine w_istore d_q_nearestRow_54 (Nat.le_of_ble_eq_true rfl) ?_
        refine w_iincN d_q_nearestRow_56 rfl ?_
        refine w_goto 19 d_q_nearestRow_59 (by decide) ?_
        exact hn h22 _ _ (by omega) (by rw [near_yes (by rw [← hb]; exact h45)])
  refine w_iconst (v := nI 0) d_q_nearestRow_0 (by decide +kernel) ?_
  refine w_istore d_q_nearestRow_1 (Nat.le_of_ble_eq_true rfl) ?_
  refine w_aload_n d_q_nearestRow_3 rfl ?_
  refine w_iload_n d_q_nearestRow_4 rfl ?_
  refine w_aaldN d_q_nearestRow_5 (hg1) (hg2) (by omega) ?_
  refine w_aload_n d_q_nearestRow_6 rfl ?_
  refine w_iload d_q_nearestRow_7 rfl ?_
  refine w_iload d_q_nearestRow_9 rfl ?_
  refine w_callS4 (N := M_q_distance) d_q_nearestRow_11 LK_q_312 MF_q_distance MS_q_distance NP_q_distance (by decide) rfl (Nat.le_of_ble_eq_true rfl) ?_
  refine Ev.det (c_q_distance _ _ _ _ _ (hrow 0 h0).1 (hrow 0 h0).2.1 (hrow 0 h0).2.2 hp1 hp2 hp3 hw) ?_
  refine w_istore d_q_nearestRow_14 (Nat.le_of_ble_eq_true rfl) ?_
  refine w_iconst (v := nI 1) d_q_nearestRow_16 (by decide +kernel) ?_
  show Wp _ 17 _ _ _ _
  refine w_istore d_q_nearestRow_17 (Nat.le_of_ble_eq_true rfl) ?_
  exact hk0 1 (by omega) 0 _ (by omega) (near_1 _).symm
end
section
set_option maxRecDepth 100000 in
set_option maxHeartbeats 4000000 in
theorem c_j_abs (S : St) (v : Int32) : Ev M_j_abs [.int v] S (fun v9 S' => v9 = some (.int (absI v)) ∧ S' = S) := by
  refine Ev.of MF_j_abs (all_cat rfl) (Nat.le_of_ble_eq_true rfl) ?_
  show Wp M_j_abs 0 [.int v] [] _ _
  refine w_iload_n d_j_abs_0 rfl ?_
  refine w_if_ge 9 d_j_abs_1 (by decide) (fun h1 => ?_) (fun h1 => ?_)
  · refine w_iload_n d_j_abs_9 rfl ?_
    refine w_iret (st := []) rfl d_j_abs_10 ?_
    exact ⟨by unfold absI; rw [if_pos h1], rfl⟩
  · refine w_iload_n d_j_abs_4 rfl ?_
    refine w_ineg d_j_abs_5 ?_
    refine w_goto 10 d_j_abs_6 (by decide) ?_
    refine w_iret (st := []) rfl d_j_abs_10 ?_
    exact ⟨by unfold absI; rw [if_neg h1], rfl⟩
set_option maxRecDepth 100000 in
set_option maxHeartbeats 4000000 in
theorem c_j_min (S : St) (v w : Int32) : Ev M_j_min [.int v, .int w] S (fun v9 S' => v9 = some (.int (if w < v then w else v)) ∧ S' = S) := by
  refine Ev.of MF_j_min (all_cat rfl) (Nat.le_of_ble_eq_true rfl) ?_
  show Wp M_j_min 0 [.int v, .int w] [] _ _
  refine w_iload_n d_j_min_0 rfl ?_
  refine w_iload_n d_j_min_1 rfl ?_
  refine w_icmp_gt 9 d_j_min_2 (by decide) (fun h2 => ?_) (fun h2 => ?_)
  · refine w_iload_n d_j_min_9 rfl ?_
    refine w_iret (st := []) rfl d_j_min_10 ?_
    exact ⟨by rw [if_pos h2], rfl⟩
  · refine w_iload_n d_j_min_5 rfl ?_
    refine w_goto 10 d_j_min_6 (by decide) ?_
    refine w_iret (st := []) rfl d_j_min_10 ?_
    exact ⟨by rw [if_neg h2], rfl⟩
set_option maxRecDepth 100000 in
set_option maxHeartbeats 4000000 in
theorem c_j_max (S : St) (v w : Int32) : Ev M_j_max [.int v, .int w] S (fun v9 S' => v9 = some (.int (if v < w then w else v)) ∧ S' = S) := by
  refine Ev.of MF_j_max (all_cat rfl) (Nat.le_of_ble_eq_true rfl) ?_
  show Wp M_j_max 0 [.int v, .int w] [] _ _
  refine w_iload_n d_j_max_0 rfl ?_
  refine w_iload_n d_j_max_1 rfl ?_
  refine w_icmp_lt 9 d_j_max_2 (by decide) (fun h2 => ?_) (fun h2 => ?_)
  · refine w_iload_n d_j_max_9 rfl ?_
    refine w_iret (st := []) rfl d_j_max_10 ?_
    exact ⟨by rw [if_pos h2], rfl⟩
  · refine w_iload_n d_j_max_5 rfl ?_
    refine w_goto 10 d_j_max_6 (by decide) ?_
    refine w_iret (st := []) rfl d_j_max_10 ?_
    exact ⟨by rw [if_neg h2], rfl⟩
set_option maxRecDepth 100000 in
set_option maxHeartbeats 4000000 in
theorem c_j_floorDiv (S : St) (v w : Int32) (hw : ¬ w = 0) : Ev M_j_floorDiv [.int v, .int w] S (fun v9 S' => v9 = some (.int (fdv v w)) ∧ S' = S) := by
  refine Ev.of MF_j_floorDiv (all_cat rfl) (Nat.le_of_ble_eq_true rfl) ?_
  show Wp M_j_floorDiv 0 [.int v, .int w, .null] [] _ _
  refine w_iload_n d_j_floorDiv_0 rfl ?_
  refine w_iload_n d_j_floorDiv_1 rfl ?_
  refine w_idiv d_j_floorDiv_2 (hw) ?_
  refine w_istore_n d_j_floorDiv_3 (Nat.le_of_ble_eq_true rfl) ?_
  refine w_iload_n d_j_floorDiv_4 rfl ?_
  refine w_iload_n d_j_floorDiv_5 rfl ?_
  refine w_ixor d_j_floorDiv_6 ?_
  refine w_if_ge 21 d_j_floorDiv_7 (by decide) (fun h7 => ?_) (fun h7 => ?_)
  · refine w_iload_n d_j_floorDiv_21 rfl ?_
    refine w_iret (st := []) rfl d_j_floorDiv_22 ?_
    exact ⟨by unfold fdv; rw [if_neg (Int32.not_lt.mpr h7)], rfl⟩
  · refine w_iload_n d_j_floorDiv_10 rfl ?_
    refine w_iload_n d_j_floorDiv_11 rfl ?_
    refine w_imul d_j_floorDiv_12 ?_
    refine w_iload_n d_j_floorDiv_13 rfl ?_
    refine w_icmp_eq 21 d_j_floorDiv_14 (by decide) (fun h14 => ?_) (fun h14 => ?_)
    · refine w_iload_n d_j_floorDiv_21 rfl ?_
      refine w_iret (st := []) rfl d_j_floorDiv_22 ?_
      exact ⟨by unfold fdv; rw [if_pos (Int32.not_le.mp h7), if_pos h14], rfl⟩
    · refine w_iload_n d_j_floorDiv_17 rfl ?_
      refine w_iconst (v := nI 1) d_j_floorDiv_18 (by decide +kernel) ?_
      refine w_isub d_j_floorDiv_19 ?_
      refine w_iret (st := []) rfl d_j_floorDiv_20 ?_
      exact ⟨by unfold fdv; rw [if_pos (Int32.not_le.mp h7), if_neg h14], rfl⟩
set_option maxRecDepth 100000 in
set_option maxHeartbeats 4000000 in
theorem c_t_isStep (S : St) (v : Int32) : Ev M_t_isStep [.int v] S (fun v9 S' => v9 = some (.int (bI (decide (¬ v = 0 ∧ (-4 ≤ v ∧ v ≤ nI 4))))) ∧ S' = S) := by
  refine Ev.of MF_t_isStep (all_cat rfl) (Nat.le_of_ble_eq_true rfl) ?_
  show Wp M_t_isStep 0 [.int v] [] _ _
  refine w_iload_n d_t_isStep_0 rfl ?_
  refine w_if_eq 18 d_t_isStep_1 (by decide) (fun h1 => ?_) (fun h1 => ?_)
  · refine w_iconst (v := nI 0) d_t_isStep_18 (by decide +kernel) ?_
    refine w_zret (st := []) rfl d_t_isStep_19 (by decide) ?_
    exact ⟨rb0 (decide_eq_false (fun q => q.1 h1)), rfl⟩
  · refine w_iload_n d_t_isStep_4 rfl ?_
    refine w_bipush (v := -4) d_t_isStep_5 (by decide +kernel) ?_
    refine w_iconst (v := nI 4) d_t_isStep_7 (by decide +kernel) ?_
    refine w_callS3 (N := M_q_isWithin) d_t_isStep_8 LK_t_23 MF_q_isWithin MS_q_isWithin NP_q_isWithin (by decide) rfl (Nat.le_of_ble_eq_true rfl) ?_
    refine Ev.det (c_q_isWithin _ _ _ _) ?_
    refine w_if_eqB 18 d_t_isStep_11 (by decide) (fun h11 => ?_) (fun h11 => ?_)
    · refine w_iconst (v := nI 0) d_t_isStep_18 (by decide +kernel) ?_
      refine w_zret (st := []) rfl d_t_isStep_19 (by decide) ?_
      exact ⟨rb0 (decide_eq_false (fun q => of_decide_eq_false h11 q.2)), rfl⟩
    · refine w_iconst (v := nI 1) d_t_isStep_14 (by decide +kernel) ?_
      refine w_goto 19 d_t_isStep_15 (by decide) ?_
      refine w_zret (st := []) rfl d_t_isStep_19 (by decide) ?_
      exact ⟨rb1 (decide_eq_true ⟨h1, of_decide_eq_true h11⟩), rfl⟩
set_option maxRecDepth 100000 in
set_option maxHeartbeats 4000000 in
theorem c_t_axisBit (S : St) (v : Int32) : Ev M_t_axisBit [.int v] S (fun v9 S' => v9 = some (.int (nI 1 <<< (absI v &&& 31))) ∧ S' = S) := by
  refine Ev.of MF_t_axisBit (all_cat rfl) (Nat.le_of_ble_eq_true rfl) ?_
  show Wp M_t_axisBit 0 [.int v] [] _ _
  refine w_iconst (v := nI 1) d_t_axisBit_0 (by decide +kernel) ?_
  refine w_iload_n d_t_axisBit_1 rfl ?_
  refine w_callS1 (N := M_j_abs) d_t_axisBit_2 LK_t_27 MF_j_abs MS_j_abs NP_j_abs (by decide) rfl (Nat.le_of_ble_eq_true rfl) ?_
  refine Ev.det (c_j_abs _ _) ?_
  refine w_ishl d_t_axisBit_5 ?_
  refine w_iret (st := []) rfl d_t_axisBit_6 ?_
  exact ⟨rfl, rfl⟩
theorem step_cases {v : Int32} (h : ¬ v = 0 ∧ (-4 ≤ v ∧ v ≤ nI 4)) : v = 1 ∨ v = 2 ∨ v = 3 ∨ v = 4 ∨ v = -1 ∨ v = -2 ∨ v = -3 ∨ v = -4 := by
  obtain ⟨h0, h1, h2⟩ := h
  rw [Int32.le_iff_toInt_le] at h1 h2
  have a1 : (-4 : Int32).toInt = -4 := by decide
  have a2 : (nI 4 : Int32).toInt = 4 := by decide
  rw [a1] at h1
  rw [a2] at h2
  have h3 : v.toInt ≠ 0 := fun q => h0 (Int32.toInt_inj.mp (by rw [q]; decide))
  have h4 : v.toInt = 1 ∨ v.toInt = 2 ∨ v.toInt = 3 ∨ v.toInt = 4 ∨ v.toInt = -1 ∨ v.toInt = -2 ∨ v.toInt = -3 ∨ v.toInt = -4 := by omega
  rcases h4 with q | q | q | q | q | q | q | q
  · exact Or.inl (Int32.toInt_inj.mp (by rw [q]; decide))
  · exact Or.inr (Or.inl (Int32.toInt_inj.mp (by rw [q]; decide)))
  · exact Or.inr (Or.inr (Or.inl (Int32.toInt_inj.mp (by rw [q]; decide))))
  · exact Or.inr (Or.inr (Or.inr (Or.inl (Int32.toInt_inj.mp (by rw [q]; decide)))))
  · exact Or.inr (Or.inr (Or.inr (Or.inr (Or.inl (Int32.toInt_inj.mp (by rw [q]; decide))))))
  · exact Or.inr (Or.inr (Or.inr (Or.inr (Or.inr (Or.inl (Int32.toInt_inj.mp (by rw [q]; decide)))))))
  · exact Or.inr (Or.inr (Or.inr (Or.inr (Or.inr (Or.inr (Or.inl (Int32.toInt_inj.mp (by rw [q]; decide))))))))
  · exact Or.inr (Or.inr (Or.inr (Or.inr (Or.inr (Or.inr (Or.inr (Int32.toInt_inj.mp (by rw [q]; decide))))))))
theorem bitOf_step {v : Int32} (h : ¬ v = 0 ∧ (-4 ≤ v ∧ v ≤ nI 4)) : bitOf v = nI 1 <<< (absI v &&& 31) := by
  rcases step_cases h with rfl | rfl | rfl | rfl | rfl | rfl | rfl | rfl <;> decide +kernel
theorem bitOf_no {v : Int32} (h : ¬ (¬ v = 0 ∧ (-4 ≤ v ∧ v ≤ nI 4))) : bitOf v = 0 := by
  unfold bitOf
  have e4 : (nI 4 : Int32) = 4 := by decide
  rw [e4] at h
  have k1 : ¬ (1 ≤ v ∧ v ≤ 4) := fun q => h ⟨fun z => by rw [z] at q; exact absurd q.1 (by decide), Int32.le_trans (by decide) q.1, q.2⟩
  have k2 : ¬ (v ≤ -1 ∧ -4 ≤ v) := fun q => h ⟨fun z => by rw [z] at q; exact absurd q.1 (by decide), q.2, Int32.le_trans q.1 (by decide)⟩
  rw [if_neg k1, if_neg k2]
theorem bitOf_5 (v : Int32) : bitOf v = 0 ∨ bitOf v = 2 ∨ bitOf v = 4 ∨ bitOf v = 8 ∨ bitOf v = 16 := by
  by_cases h : ¬ v = 0 ∧ (-4 ≤ v ∧ v ≤ nI 4)
  · rcases step_cases h with rfl | rfl | rfl | rfl | rfl | rfl | rfl | rfl <;> decide +kernel
  · exact Or.inl (bitOf_no h)
theorem or3 : ∀ a ∈ ([0, 2, 4, 8, 16] : List Int32), ∀ b ∈ ([0, 2, 4, 8, 16] : List Int32), ∀ c ∈ ([0, 2, 4, 8, 16] : List Int32), ¬ (0 ||| a ||| b ||| c = 30) ∧ ¬ (a ||| 0 ||| b ||| c = 30) ∧ ¬ (a ||| b ||| 0 ||| c = 30) ∧ ¬ (a ||| b ||| c ||| 0 = 30) := by decide +kernel
theorem bitOf_mem (v : Int32) : bitOf v ∈ ([0, 2, 4, 8, 16] : List Int32) := by
  rcases bitOf_5 v with h | h | h | h | h <;> rw [h] <;> decide
theorem turn_steps {a b c d : Int32} (h : turnOK a b c d = true) : (¬ a = 0 ∧ (-4 ≤ a ∧ a ≤ nI 4)) ∧ (¬ b = 0 ∧ (-4 ≤ b ∧ b ≤ nI 4)) ∧ (¬ c = 0 ∧ (-4 ≤ c ∧ c ≤ nI 4)) ∧ (¬ d = 0 ∧ (-4 ≤ d ∧ d ≤ nI 4)) := by
  have h := of_decide_eq_true h
  refine ⟨?_, ?_, ?_, ?_⟩
  · exact Decidable.byContradiction (fun q => by rw [bitOf_no q] at h; exact (or3 _ (bitOf_mem b) _ (bitOf_mem c) _ (bitOf_mem d)).1 h)
  · exact Decidable.byContradiction (fun q => by rw [bitOf_no q] at h; exact (or3 _ (bitOf_mem a) _ (bitOf_mem c) _ (bitOf_mem d)).2.1 h)
  · exact Decidable.byContradiction (fun q => by rw [bitOf_no q] at h; exact (or3 _ (bitOf_mem a) _ (bitOf_mem b) _ (bitOf_mem d)).2.2.1 h)
  · exact Decidable.byContradiction (fun q => by rw [bitOf_no q] at h; exact (or3 _ (bitOf_mem a) _ (bitOf_mem b) _ (bitOf_mem c)).2.2.2 h)
theorem step_ok {v : Int32} (h : ¬ v = 0 ∧ (-4 ≤ v ∧ v ≤ nI 4)) : okStep v := by
  rcases step_cases h with rfl | rfl | rfl | rfl | rfl | rfl | rfl | rfl
  · exact ⟨0, by decide, Or.inl (by decide)⟩
  · exact ⟨1, by decide, Or.inl (by decide)⟩
  · exact ⟨2, by decide, Or.inl (by decide)⟩
  · exact ⟨3, by decide, Or.inl (by decide)⟩
  · exact ⟨0, by decide, Or.inr (by decide)⟩
  · exact ⟨1, by decide, Or.inr (by decide)⟩
  · exact ⟨2, by decide, Or.inr (by decide)⟩
  · exact ⟨3, by decide, Or.inr (by decide)⟩
set_option maxRecDepth 100000 in
set_option maxHeartbeats 4000000 in
theorem c_t_allows (S : St) (a b c d : Int32) : Ev M_t_allows [.int a, .int b, .int c, .int d] S (fun v9 S' => v9 = some (.int (bI (turnOK a b c d))) ∧ S' = S) := by
  refine Ev.of MF_t_allows (all_cat rfl) (Nat.le_of_ble_eq_true rfl) ?_
  show Wp M_t_allows 0 [.int a, .int b, .int c, .int d] [] _ _
  refine w_iload_n d_t_allows_0 rfl ?_
  refine w_callS1 (N := M_t_isStep) d_t_allows_1 LK_t_15 MF_t_isStep MS_t_isStep NP_t_isStep (by decide) rfl (Nat.le_of_ble_eq_true rfl) ?_
  refine Ev.det (c_t_isStep _ _) ?_
  refine w_if_eqB 28 d_t_allows_4 (by decide) (fun h4 => ?_) (fun h4 => ?_)
  · refine w_iconst (v := nI 0) d_t_allows_28 (by decide +kernel) ?_
    refine w_zret (st := []) rfl d_t_allows_29 (by decide) ?_
    exact ⟨rb0 (Bool.eq_false_iff.mpr (fun q => of_decide_eq_false h4 (turn_steps q).1)), rfl⟩
  · refine w_iload_n d_t_allows_7 rfl ?_
    refine w_callS1 (N := M_t_isStep) d_t_allows_8 LK_t_15 MF_t_isStep MS_t_isStep NP_t_isStep (by decide) rfl (Nat.le_of_ble_eq_true rfl) ?_
    refine Ev.det (c_t_isStep _ _) ?_
    refine w_if_eqB 28 d_t_allows_11 (by decide) (fun h11 => ?_) (fun h11 => ?_)
    · refine w_iconst (v := nI 0) d_t_allows_28 (by decide +kernel) ?_
      refine w_zret (st := []) rfl d_t_allows_29 (by decide) ?_
      exact ⟨rb0 (Bool.eq_false_iff.mpr (fun q => of_decide_eq_false h11 (turn_steps q).2.1)), rfl⟩
    · refine w_iload_n d_t_allows_14 rfl ?_
      refine w_callS1 (N := M_t_isStep) d_t_allows_15 LK_t_15 MF_t_isStep MS_t_isStep NP_t_isStep (by decide) rfl (Nat.le_of_ble_eq_true rfl) ?_
      refine Ev.det (c_t_isStep _ _) ?_
      refine w_if_eqB 28 d_t_allows_18 (by decide) (fun h18 => ?_) (fun h18 => ?_)
      · refine w_iconst (v := nI 0) d_t_allows_28 (by decide +kernel) ?_
        refine w_zret (st := []) rfl d_t_allows_29 (by decide) ?_
        exact ⟨rb0 (Bool.eq_false_iff.mpr (fun q => of_decide_eq_false h18 (turn_steps q).2.2.1)), rfl⟩
      · refine w_iload_n d_t_allows_21 rfl ?_
        refine w_callS1 (N := M_t_isStep) d_t_allows_22 LK_t_15 MF_t_isStep MS_t_isStep NP_t_isStep (by decide) rfl (Nat.le_of_ble_eq_true rfl) ?_
        refine Ev.det (c_t_isStep _ _) ?_
        refine w_if_neB 30 d_t_allows_25 (by decide) (fun h25 => ?_) (fun h25 => ?_)
        · refine w_iload_n d_t_allows_30 rfl ?_
          refine w_callS1 (N := M_t_axisBit) d_t_allows_31 LK_t_19 MF_t_axisBit MS_t_axisBit NP_t_axisBit (by decide) rfl (Nat.le_of_ble_eq_true rfl) ?_
          refine Ev.det (c_t_axisBit _ _) ?_
          refine w_iload_n d_t_allows_34 rfl ?_
          refine w_callS1 (N := M_t_axisBit) d_t_allows_35 LK_t_19 MF_t_axisBit MS_t_axisBit NP_t_axisBit (by decide) rfl (Nat.le_of_ble_eq_true rfl) ?_
          refine Ev.det (c_t_axisBit _ _) ?_
          refine w_ior d_t_allows_38 ?_
          refine w_iload_n d_t_allows_39 rfl ?_
          refine w_callS1 (N := M_t_axisBit) d_t_allows_40 LK_t_19 MF_t_axisBit MS_t_axisBit NP_t_axisBit (by decide) rfl (Nat.le_of_ble_eq_true rfl) ?_
          refine Ev.det (c_t_axisBit _ _) ?_
          refine w_ior d_t_allows_43 ?_
          refine w_iload_n d_t_allows_44 rfl ?_
          refine w_callS1 (N := M_t_axisBit) d_t_allows_45 LK_t_19 MF_t_axisBit MS_t_axisBit NP_t_axisBit (by decide) rfl (Nat.le_of_ble_eq_true rfl) ?_
          refine Ev.det (c_t_axisBit _ _) ?_
          refine w_ior d_t_allows_48 ?_
          show Wp _ 49 _ _ _ _
          refine w_bipush (v := nI 30) d_t_allows_49 (by decide +kernel) ?_
          refine w_icmp_ne 58 d_t_allows_51 (by decide) (fun h51 => ?_) (fun h51 => ?_)
          · refine w_iconst (v := nI 0) d_t_allows_58 (by decide +kernel) ?_
            refine w_zret (st := []) rfl d_t_allows_59 (by decide) ?_
            refine ⟨?_, rfl⟩
            refine rb0 ?_
            unfold turnOK
            rw [bitOf_step (of_decide_eq_true h4), bitOf_step (of_decide_eq_true h11), bitOf_step (of_decide_eq_true h18), bitOf_step (of_decide_eq_true h25)]
            exact decide_eq_false h51
          · refine w_iconst (v := nI 1) d_t_allows_54 (by decide +kernel) ?_
            refine w_goto 59 d_t_allows_55 (by decide) ?_
            refine w_zret (st := []) rfl d_t_allows_59 (by decide) ?_
            refine ⟨?_, rfl⟩
            refine rb1 ?_
            unfold turnOK
            rw [bitOf_step (of_decide_eq_true h4), bitOf_step (of_decide_eq_true h11), bitOf_step (of_decide_eq_true h18), bitOf_step (of_decide_eq_true h25)]
            exact decide_eq_true h51
        · refine w_iconst (v := nI 0) d_t_allows_28 (by decide +kernel) ?_
          refine w_zret (st := []) rfl d_t_allows_29 (by decide) ?_
          exact ⟨rb0 (Bool.eq_false_iff.mpr (fun q => of_decide_eq_false h25 (turn_steps q).2.2.2)), rfl⟩
set_option maxRecDepth 100000 in
set_option maxHeartbeats 4000000 in
theorem c_t_become (S : St) (a b c d : Int32) : Ev M_t_become [.ref 1, .int a, .int b, .int c, .int d] S (fun v9 S' => v9 = none ∧ S' = setRow S 9 (pt a b c d) 4) := by
  refine Ev.of MF_t_become (all_cat rfl) (Nat.le_of_ble_eq_true rfl) ?_
  show Wp M_t_become 0 [.ref 1, .int a, .int b, .int c, .int d] [] _ _
  refine w_aload_n d_t_become_0 rfl ?_
  refine w_getR d_t_become_1 FL_t_9 (by decide) (rfl) (rfl) ?_
  refine w_iload_n d_t_become_4 rfl ?_
  refine w_iload_n d_t_become_5 rfl ?_
  refine w_iload_n d_t_become_6 rfl ?_
  refine w_iload d_t_become_7 rfl ?_
  refine w_callS5 (N := M_q_setPoint) d_t_become_9 LK_t_32 MF_q_setPoint MS_q_setPoint NP_q_setPoint (by decide) rfl (Nat.le_of_ble_eq_true rfl) ?_
  refine Ev.det (c_q_setPoint _ _ _ _ _ _ (by decide) (by decide) (by decide)) ?_
  refine w_ret (st := []) rfl d_t_become_12 ?_
  exact ⟨rfl, rfl⟩
set_option maxRecDepth 100000 in
set_option maxHeartbeats 4000000 in
theorem c_t_apply (S : St) (g u : Nat) (hg1 : g < 204) (hg2 : kd g = 0) (hg3 : ln g = 4) (hu1 : u < 204) (hu2 : kd u = 0) (hu3 : ln u = 4) (hgu : g ≠ u) (h9 : 9 ≠ u) (ho : ∀ k, k < 4 → okStep (S.1 9 k)) : Ev M_t_apply [.ref 1, .ref g, .ref u] S (fun v9 S' => v9 = none ∧ S' = setRow S u (fun k => tval (S.1 9 k) (S.1 g)) 4) := by
  refine Ev.of MF_t_apply (all_cat rfl) (Nat.le_of_ble_eq_true rfl) ?_
  show Wp M_t_apply 0 [.ref 1, .ref g, .ref u, .null, .null] [] _ _
  have hk0 : ∀ k, k ≤ 4 → ∀ (S1 : St) (x4 : Value), S1 = setRow S u (fun k => tval (S.1 9 k) (S.1 g)) k → Wp M_t_apply 2 [.ref 1, .ref g, .ref u, .int (nI k), x4] [] S1 (fun v9 S' => v9 = none ∧ S' = setRow S u (fun k => tval (S.1 9 k) (S.1 g)) 4) := by
    refine loopUp (4) (fun k hk9 hn => ?_)
    intro S1 x4 hS
    have e9 : S1.1 9 k = S.1 9 k := by rw [hS, setRow_ne h9]
    have eg : S1.1 g = S.1 g := by rw [hS, setRow_row hgu]
    refine w_iload_n d_t_apply_2 rfl ?_
    refine w_iconst (v := nI 4) d_t_apply_3 (by decide +kernel) ?_
    refine w_icmp_geN 48 d_t_apply_4 (by decide) (by omega) (by omega) (fun h4 => ?_) (fun h4 => ?_)
    · refine w_ret (st := []) rfl d_t_apply_48 ?_
      obtain rfl : k = 4 := by omega
      exact ⟨rfl, hS⟩
    · refine w_aload_n d_t_apply_7 rfl ?_
      refine w_aload_n d_t_apply_8 rfl ?_
      refine w_getR d_t_apply_9 FL_t_9 (by decide) (rfl) (rfl) ?_
      refine w_iload_n d_t_apply_12 rfl ?_
      refine w_ialdNV (v := ((S.1 9 k))) d_t_apply_13 (by decide) (rfl) (show k < 4 from (by omega)) (e9) ?_
      refine w_callS1 (N := M_j_abs) d_t_apply_14 LK_t_27 MF_j_abs MS_j_abs NP_j_abs (by decide) rfl (Nat.le_of_ble_eq_true rfl) ?_
      refine Ev.det (c_j_abs _ _) ?_
      refine w_iconst (v := nI 1) d_t_apply_17 (by decide +kernel) ?_
      refine w_isub d_t_apply_18 ?_
      refine w_iald (n := ax (S.1 9 k)) d_t_apply_19 ((okStep_ax (ho k h4)).1) (hg1) (hg2) (by have := (okStep_ax (ho k h4)).2; omega) ?_
      refine w_istore d_t_apply_20 (Nat.le_of_ble_eq_true rfl) ?_
      refine w_aload_n d_t_apply_22 rfl ?_
      show Wp _ 23 _ _ _ _
      refine w_iload_n d_t_apply_23 rfl ?_
      refine w_aload_n d_t_apply_24 rfl ?_
      refine w_getR d_t_apply_25 FL_t_9 (by decide) (rfl) (rfl) ?_
      refine w_iload_n d_t_apply_28 rfl ?_
      refine w_ialdNV (v := ((S.1 9 k))) d_t_apply_29 (by decide) (rfl) (show k < 4 from (by omega)) (e9) ?_
      refine w_if_ge 39 d_t_apply_30 (by decide) (fun h30 => ?_) (fun h30 => ?_)
      · refine w_iload d_t_apply_39 rfl ?_
        refine w_iastNP d_t_apply_41 (hu1) (hu2) (show k < ln u by rw [hu3]; omega) ?_
        refine w_iincN d_t_apply_42 rfl ?_
        refine w_goto 2 d_t_apply_45 (by decide) ?_
        refine hn h4 _ _ ?_
        subst hS
        refine setRow_s ?_
        show _ = tval (S.1 9 k) (S.1 g)
        rw [eg]
        unfold tval
        rw [if_neg (Int32.not_lt.mpr h30)]
      · refine w_iload d_t_apply_33 rfl ?_
        refine w_ineg d_t_apply_35 ?_
        refine w_goto 41 d_t_apply_36 (by decide) ?_
        refine w_iastNP d_t_apply_41 (hu1) (hu2) (show k < ln u by rw [hu3]; omega) ?_
        refine w_iincN d_t_apply_42 rfl ?_
        refine w_goto 2 d_t_apply_45 (by decide) ?_
        refine hn h4 _ _ ?_
        subst hS
        refine setRow_s ?_
        show _ = tval (S.1 9 k) (S.1 g)
        rw [eg]
        unfold tval
        rw [if_pos (Int32.not_le.mp h30)]
  refine w_iconst (v := nI 0) d_t_apply_0 (by decide +kernel) ?_
  refine w_istore_n d_t_apply_1 (Nat.le_of_ble_eq_true rfl) ?_
  exact hk0 0 (by omega) _ _ (setRow_0 _ _ _).symm
end
section
/-! The quantiser. What it works out of a point: its list, what is left of it, the word of each part. -/
theorem fref_ent0 {c : Nat} (h1 : 124 ≤ c) : fref c 0 = some (c + 20) := fref_ent h1 (by decide)
theorem fref_ent1 {c : Nat} (h1 : 124 ≤ c) : fref c 1 = some (c + 40) := fref_ent h1 (by decide)
theorem fref_ent2 {c : Nat} (h1 : 124 ≤ c) : fref c 2 = some (c + 60) := fref_ent h1 (by decide)
theorem dst_congr {f f' g g' : Nat → Int32} : ∀ {w : Nat}, (∀ k, k < w → f k = f' k) → (∀ k, k < w → g k = g' k) → dst f g w = dst f' g' w
  | 0, _, _ => rfl
  | w + 1, h1, h2 => by
    show dst f g w + _ = dst f' g' w + _
    rw [dst_congr (fun k hk => h1 k (by omega)) (fun k hk => h2 k (by omega)), h1 w (by omega), h2 w (by omega)]
theorem dst_comm {f g : Nat → Int32} : ∀ {w : Nat}, dst f g w = dst g f w
  | 0 => rfl
  | w + 1 => by
    show dst f g w + _ = dst g f w + _
    rw [dst_comm, ← Int32.neg_mul_neg (f w - g w), Int32.neg_sub]
def lsOf (S : St) (nl : Nat) (x : Nat → Int32) : Nat := near (fun l => dst (S.1 (104 + l)) x 4) nl
def lfOf (S : St) (l : Nat) (x : Nat → Int32) : Nat → Int32 := fun k => x k - S.1 (104 + l) k
/-- the distance of what is left to a word -/
def wdOf (S : St) (kind : Int32) (y : Nat → Int32) (part j : Nat) : Int32 := dst (S.1 (108 + (part * 4 + j))) (fun k => y (part * pwid kind + k)) (pwid kind)
def cdOf (S : St) (kind : Int32) (nc : Nat) (y : Nat → Int32) (part : Nat) : Nat := near (wdOf S kind y part) nc
theorem lsOf_lt {S : St} {nl : Nat} {x : Nat → Int32} (h : 0 < nl) : lsOf S nl x < nl := near_lt _ _ h
theorem cdOf_lt {S : St} {kind : Int32} {nc : Nat} {y : Nat → Int32} {part : Nat} (h : 0 < nc) : cdOf S kind nc y part < nc := near_lt _ _ h
theorem lsOf_congr {S S' : St} {nl : Nat} {x x' : Nat → Int32} (h : ∀ l, l < nl → ∀ k, k < 4 → S.1 (104 + l) k = S'.1 (104 + l) k) (hx : ∀ k, k < 4 → x k = x' k) : lsOf S nl x = lsOf S' nl x' := near_congr (fun l hl => dst_congr (h l hl) hx)
theorem pw_in {kind : Int32} {part k : Nat} (h : part < parts kind) (hk : k < pwid kind) : part * pwid kind + k < 4 := by
  unfold parts at h
  unfold pwid at hk ⊢
  split at h
  · rename_i h0
    rw [if_pos h0] at hk ⊢
    omega
  · rename_i h0
    rw [if_neg h0] at hk ⊢
    split at h
    · rename_i h1
      rw [if_pos h1] at hk ⊢
      omega
    · omega
theorem pw_le {kind : Int32} {part : Nat} (h : part < parts kind) : part * pwid kind + pwid kind ≤ 4 := by
  unfold parts at h
  unfold pwid
  split at h
  · rename_i h0
    rw [if_pos h0]
    omega
  · rename_i h0
    rw [if_neg h0]
    split at h
    · rename_i h1
      rw [if_pos h1]
      omega
    · omega
theorem wdOf_congr {S S' : St} {kind : Int32} {y y' : Nat → Int32} {part j : Nat} (hp : part < parts kind) (h : ∀ k, k < pwid kind → S.1 (108 + (part * 4 + j)) k = S'.1 (108 + (part * 4 + j)) k) (hy : ∀ k, k < 4 → y k = y' k) : wdOf S kind y part j = wdOf S' kind y' part j := dst_congr h (fun k hk => hy _ (pw_in hp hk))
theorem cdOf_congr {S S' : St} {kind : Int32} {nc : Nat} {y y' : Nat → Int32} {part : Nat} (hp : part < parts kind) (h : ∀ j, j < nc → ∀ k, k < pwid kind → S.1 (108 + (part * 4 + j)) k = S'.1 (108 + (part * 4 + j)) k) (hy : ∀ k, k < 4 → y k = y' k) : cdOf S kind nc y part = cdOf S' kind nc y' part := near_congr (fun j hj => wdOf_congr hp (h j hj) hy)
/-- the number of a code -/
def csum (c : Nat → Nat) (nc : Nat) : Nat → Nat
  | 0 => 0
  | p + 1 => csum c nc p + c p * nc ^ p
/-- the sum of the parts' distances -/
def wsum (S : St) (kind : Int32) (y : Nat → Int32) (c : Nat → Nat) : Nat → Int32
  | 0 => 0
  | p + 1 => wsum S kind y c p + wdOf S kind y p (c p)
/-- how many lists stand before this one -/
def lbef (d : Nat → Int32) (l : Nat) : Nat → Nat
  | 0 => 0
  | n + 1 => lbef d l n + if d n < d l ∨ d n = d l ∧ n < l then 1 else 0
theorem lbef_le (d : Nat → Int32) (l : Nat) : ∀ n, lbef d l n ≤ n
  | 0 => Nat.le_refl 0
  | n + 1 => by
    have := lbef_le d l n
    show lbef d l n + (if _ then 1 else 0) ≤ n + 1
    split <;> omega
theorem csum_lt {c : Nat → Nat} {nc : Nat} (h : ∀ p, c p < nc) : ∀ p, csum c nc p < nc ^ p
  | 0 => Nat.one_pos
  | p + 1 => by
    have h1 := csum_lt h p
    have h2 := h p
    show csum c nc p + c p * nc ^ p < nc ^ (p + 1)
    rw [Nat.pow_succ]
    calc csum c nc p + c p * nc ^ p < nc ^ p + c p * nc ^ p := by omega
      _ = (c p + 1) * nc ^ p := by rw [Nat.add_mul, Nat.one_mul, Nat.add_comm]
      _ ≤ nc * nc ^ p := Nat.mul_le_mul_right _ h2
      _ = nc ^ p * nc := Nat.mul_comm _ _
set_option maxRecDepth 100000 in
set_option maxHeartbeats 4000000 in
theorem c_z_become (S : St) (k l c : Int32) : Ev M_z_become [.ref 4, .int k, .int l, .int c] S (fun v9 S' => v9 = none ∧ S' = put (put (put (put S 4 3 (nI 1)) 4 4 k) 4 5 l) 4 6 c) := by
  refine Ev.of MF_z_become (all_cat rfl) (Nat.le_of_ble_eq_true rfl) ?_
  show Wp M_z_become 0 [.ref 4, .int k, .int l, .int c] [] _ _
  refine w_aload_n d_z_become_0 rfl ?_
  refine w_iconst (v := nI 1) d_z_become_1 (by decide +kernel) ?_
  refine w_putZP d_z_become_2 FL_z_23 FW_4_3 (by decide) (rfl) (rfl) (by decide) ?_
  refine w_aload_n d_z_become_5 rfl ?_
  refine w_iload_n d_z_become_6 rfl ?_
  refine w_putIP d_z_become_7 FL_z_27 FW_4_4 (by decide) (rfl) (rfl) ?_
  refine w_aload_n d_z_become_10 rfl ?_
  refine w_iload_n d_z_become_11 rfl ?_
  refine w_putIP d_z_become_12 FL_z_31 FW_4_5 (by decide) (rfl) (rfl) ?_
  refine w_aload_n d_z_become_15 rfl ?_
  refine w_iload_n d_z_become_16 rfl ?_
  show Wp _ 17 _ _ _ _
  refine w_putIP d_z_become_17 FL_z_34 FW_4_6 (by decide) (rfl) (rfl) ?_
  refine w_ret (st := []) rfl d_z_become_20 ?_
  exact ⟨rfl, rfl⟩
set_option maxRecDepth 100000 in
set_option maxHeartbeats 4000000 in
theorem c_z_hasList (S : St) (v : Int32) : Ev M_z_hasList [.ref 4, .int v] S (fun v9 S' => v9 = some (.int (bI (decide (¬ S.1 4 3 = 0 ∧ (nI 0 ≤ v ∧ v ≤ S.1 4 5 - nI 1))))) ∧ S' = S) := by
  refine Ev.of MF_z_hasList (all_cat rfl) (Nat.le_of_ble_eq_true rfl) ?_
  show Wp M_z_hasList 0 [.ref 4, .int v] [] _ _
  refine w_aload_n d_z_hasList_0 rfl ?_
  refine w_getI d_z_hasList_1 FL_z_23 (by decide) (rfl) (rfl) ?_
  refine w_if_eq 25 d_z_hasList_4 (by decide) (fun h4 => ?_) (fun h4 => ?_)
  · refine w_iconst (v := nI 0) d_z_hasList_25 (by decide +kernel) ?_
    refine w_zret (st := []) rfl d_z_hasList_26 (by decide) ?_
    exact ⟨rb0 (decide_eq_false (fun q => q.1 h4)), rfl⟩
  · refine w_iload_n d_z_hasList_7 rfl ?_
    refine w_iconst (v := nI 0) d_z_hasList_8 (by decide +kernel) ?_
    refine w_aload_n d_z_hasList_9 rfl ?_
    refine w_getI d_z_hasList_10 FL_z_31 (by decide) (rfl) (rfl) ?_
    refine w_iconst (v := nI 1) d_z_hasList_13 (by decide +kernel) ?_
    refine w_isub d_z_hasList_14 ?_
    refine w_callS3 (N := M_q_isWithin) d_z_hasList_15 LK_z_37 MF_q_isWithin MS_q_isWithin NP_q_isWithin (by decide) rfl (Nat.le_of_ble_eq_true rfl) ?_
    refine Ev.det (c_q_isWithin _ _ _ _) ?_
    refine w_if_eqB 25 d_z_hasList_18 (by decide) (fun h18 => ?_) (fun h18 => ?_)
    · refine w_iconst (v := nI 0) d_z_hasList_25 (by decide +kernel) ?_
      refine w_zret (st := []) rfl d_z_hasList_26 (by decide) ?_
      exact ⟨rb0 (decide_eq_false (fun q => of_decide_eq_false h18 q.2)), rfl⟩
    · refine w_iconst (v := nI 1) d_z_hasList_21 (by decide +kernel) ?_
      refine w_goto 26 d_z_hasList_22 (by decide) ?_
      refine w_zret (st := []) rfl d_z_hasList_26 (by decide) ?_
      exact ⟨rb1 (decide_eq_true ⟨h4, of_decide_eq_true h18⟩), rfl⟩
set_option maxRecDepth 100000 in
set_option maxHeartbeats 4000000 in
theorem c_z_hasWord (S : St) (v w : Int32) : Ev M_z_hasWord [.ref 4, .int v, .int w] S (fun v9 S' => v9 = some (.int (bI (decide (¬ S.1 4 3 = 0 ∧ (nI 0 ≤ v ∧ v ≤ nI (parts (S.1 4 4)) - nI 1) ∧ (nI 0 ≤ w ∧ w ≤ S.1 4 6 - nI 1))))) ∧ S' = S) := by
  refine Ev.of MF_z_hasWord (all_cat rfl) (Nat.le_of_ble_eq_true rfl) ?_
  show Wp M_z_hasWord 0 [.ref 4, .int v, .int w] [] _ _
  refine w_aload_n d_z_hasWord_0 rfl ?_
  refine w_getI d_z_hasWord_1 FL_z_23 (by decide) (rfl) (rfl) ?_
  refine w_if_eq 42 d_z_hasWord_4 (by decide) (fun h4 => ?_) (fun h4 => ?_)
  · refine w_iconst (v := nI 0) d_z_hasWord_42 (by decide +kernel) ?_
    refine w_zret (st := []) rfl d_z_hasWord_43 (by decide) ?_
    exact ⟨rb0 (decide_eq_false (fun q => q.1 h4)), rfl⟩
  · refine w_iload_n d_z_hasWord_7 rfl ?_
    refine w_iconst (v := nI 0) d_z_hasWord_8 (by decide +kernel) ?_
    refine w_aload_n d_z_hasWord_9 rfl ?_
    refine w_getI d_z_hasWord_10 FL_z_27 (by decide) (rfl) (rfl) ?_
    refine w_callS1 (N := M_q_partsOf) d_z_hasWord_13 LK_z_41 MF_q_partsOf MS_q_partsOf NP_q_partsOf (by decide) rfl (Nat.le_of_ble_eq_true rfl) ?_
    refine Ev.det (c_q_partsOf _ _) ?_
    refine w_iconst (v := nI 1) d_z_hasWord_16 (by decide +kernel) ?_
    refine w_isub d_z_hasWord_17 ?_
    refine w_callS3 (N := M_q_isWithin) d_z_hasWord_18 LK_z_37 MF_q_isWithin MS_q_isWithin NP_q_isWithin (by decide) rfl (Nat.le_of_ble_eq_true rfl) ?_
    refine Ev.det (c_q_isWithin _ _ _ _) ?_
    refine w_if_eqB 42 d_z_hasWord_21 (by decide) (fun h21 => ?_) (fun h21 => ?_)
    · refine w_iconst (v := nI 0) d_z_hasWord_42 (by decide +kernel) ?_
      refine w_zret (st := []) rfl d_z_hasWord_43 (by decide) ?_
      exact ⟨rb0 (decide_eq_false (fun q => of_decide_eq_false h21 q.2.1)), rfl⟩
    · refine w_iload_n d_z_hasWord_24 rfl ?_
      refine w_iconst (v := nI 0) d_z_hasWord_25 (by decide +kernel) ?_
      refine w_aload_n d_z_hasWord_26 rfl ?_
      refine w_getI d_z_hasWord_27 FL_z_34 (by decide) (rfl) (rfl) ?_
      refine w_iconst (v := nI 1) d_z_hasWord_30 (by decide +kernel) ?_
      refine w_isub d_z_hasWord_31 ?_
      refine w_callS3 (N := M_q_isWithin) d_z_hasWord_32 LK_z_37 MF_q_isWithin MS_q_isWithin NP_q_isWithin (by decide) rfl (Nat.le_of_ble_eq_true rfl) ?_
      refine Ev.det (c_q_isWithin _ _ _ _) ?_
      refine w_if_eqB 42 d_z_hasWord_35 (by decide) (fun h35 => ?_) (fun h35 => ?_)
      · refine w_iconst (v := nI 0) d_z_hasWord_42 (by decide +kernel) ?_
        refine w_zret (st := []) rfl d_z_hasWord_43 (by decide) ?_
        exact ⟨rb0 (decide_eq_false (fun q => of_decide_eq_false h35 q.2.2)), rfl⟩
      · refine w_iconst (v := nI 1) d_z_hasWord_38 (by decide +kernel) ?_
        refine w_goto 43 d_z_hasWord_39 (by decide) ?_
        refine w_zret (st := []) rfl d_z_hasWord_43 (by decide) ?_
        exact ⟨rb1 (decide_eq_true ⟨h4, of_decide_eq_true h21, of_decide_eq_true h35⟩), rfl⟩
set_option maxRecDepth 100000 in
set_option maxHeartbeats 4000000 in
theorem c_z_nearestList (S : St) (nl p : Nat) (hl : S.1 4 5 = nI nl) (hl1 : 0 < nl) (hl4 : nl ≤ 4) (hp1 : p < 204) (hp2 : kd p = 0) (hp3 : ln p = 4) : Ev M_z_nearestList [.ref 4, .ref p] S (fun v9 S' => v9 = some (.int (nI (lsOf S nl (S.1 p)))) ∧ S' = S) := by
  refine Ev.of MF_z_nearestList (all_cat rfl) (Nat.le_of_ble_eq_true rfl) ?_
  show Wp M_z_nearestList 0 [.ref 4, .ref p] [] _ _
  refine w_aload_n d_z_nearestList_0 rfl ?_
  refine w_getR d_z_nearestList_1 FL_z_11 (by decide) (rfl) (rfl) ?_
  refine w_iconst (v := nI 0) d_z_nearestList_4 (by decide +kernel) ?_
  refine w_aload_n d_z_nearestList_5 rfl ?_
  refine w_getIV (v := (nI nl)) d_z_nearestList_6 FL_z_31 (by decide) (rfl) (rfl) (hl) ?_
  refine w_aload_n d_z_nearestList_9 rfl ?_
  refine w_iconst (v := nI 0) d_z_nearestList_10 (by decide +kernel) ?_
  refine w_iconst (v := nI 4) d_z_nearestList_11 (by decide +kernel) ?_
  refine w_callS6 (N := M_q_nearestRow) d_z_nearestList_12 LK_z_45 MF_q_nearestRow MS_q_nearestRow NP_q_nearestRow (by decide) rfl (Nat.le_of_ble_eq_true rfl) ?_
  refine Ev.det (c_q_nearestRow _ _ _ _ _ _ _ (by decide) (by decide) (show 0 + nl ≤ 4 by omega) hl1 (by omega) (fun j hj => ⟨show 104 + (0 + j) < 204 by omega, by show kd (104 + (0 + j)) = 0; exact kd_row104 (by omega), by show 4 ≤ ln (104 + (0 + j)); rw [ln_row104 (by omega)]; exact Nat.le_refl 4⟩) hp1 hp2 (by rw [hp3]; exact Nat.le_refl 4) (by decide)) ?_
  refine w_iret (st := []) rfl d_z_nearestList_15 ?_
  refine ⟨?_, rfl⟩
  unfold lsOf
  simp only [Nat.zero_add]
  rfl
set_option maxRecDepth 100000 in
set_option maxHeartbeats 4000000 in
theorem c_z_nearestWord (S : St) (kind : Int32) (nc part p : Nat) (hk : S.1 4 4 = kind) (hp : part < parts kind) (hc : S.1 4 6 = nI nc) (hc1 : 0 < nc) (hc4 : nc ≤ 4) (hp1 : p < 204) (hp2 : kd p = 0) (hp3 : ln p = 4) : Ev M_z_nearestWord [.ref 4, .int (nI part), .ref p] S (fun v9 S' => v9 = some (.int (nI (cdOf S kind nc (S.1 p) part))) ∧ S' = S) := by
  refine Ev.of MF_z_nearestWord (all_cat rfl) (Nat.le_of_ble_eq_true rfl) ?_
  show Wp M_z_nearestWord 0 [.ref 4, .int (nI part), .ref p, .null] [] _ _
  have hp4 : part < 4 := by have := parts_le kind; omega
  refine w_aload_n d_z_nearestWord_0 rfl ?_
  refine w_getIV (v := kind) d_z_nearestWord_1 FL_z_27 (by decide) (rfl) (rfl) (hk) ?_
  refine w_callS1 (N := M_q_partWidthOf) d_z_nearestWord_4 LK_z_49 MF_q_partWidthOf MS_q_partWidthOf NP_q_partWidthOf (by decide) rfl (Nat.le_of_ble_eq_true rfl) ?_
  refine Ev.det (c_q_partWidthOf _ _) ?_
  refine w_istore_n d_z_nearestWord_7 (Nat.le_of_ble_eq_true rfl) ?_
  refine w_aload_n d_z_nearestWord_8 rfl ?_
  refine w_getR d_z_nearestWord_9 FL_z_16 (by decide) (rfl) (rfl) ?_
  refine w_iload_n d_z_nearestWord_12 rfl ?_
  refine w_iconst (v := nI 0) d_z_nearestWord_13 (by decide +kernel) ?_
  refine w_callS2 (N := M_q_wordRow) d_z_nearestWord_14 LK_z_52 MF_q_wordRow MS_q_wordRow NP_q_wordRow (by decide) rfl (Nat.le_of_ble_eq_true rfl) ?_
  refine Ev.det (c_q_wordRow _ _ _) ?_
  refine w_aload_n d_z_nearestWord_17 rfl ?_
  refine w_getIV (v := (nI nc)) d_z_nearestWord_18 FL_z_34 (by decide) (rfl) (rfl) (hc) ?_
  show Wp _ 21 _ _ _ _
  refine w_aload_n d_z_nearestWord_21 rfl ?_
  refine w_iload_n d_z_nearestWord_22 rfl ?_
  refine w_iload_n d_z_nearestWord_23 rfl ?_
  refine w_imulN d_z_nearestWord_24 ?_
  refine w_iload_n d_z_nearestWord_25 rfl ?_
  refine w_callS6 (N := M_q_nearestRow) d_z_nearestWord_26 LK_z_45 MF_q_nearestRow MS_q_nearestRow NP_q_nearestRow (by decide) rfl (Nat.le_of_ble_eq_true rfl) ?_
  refine Ev.det (c_q_nearestRow _ _ _ _ _ _ _ (by decide) (by decide) (show part * 4 + 0 + nc ≤ 16 by omega) hc1 (by omega) (fun j hj => ⟨show 108 + (part * 4 + 0 + j) < 204 by omega, by show kd (108 + (part * 4 + 0 + j)) = 0; exact kd_row108 (by omega), by show pwid kind ≤ ln (108 + (part * 4 + 0 + j)); rw [ln_row108 (by omega)]; exact pwid_le kind⟩) hp1 hp2 (by rw [hp3]; exact pw_le hp) (by have := pwid_le kind; omega)) ?_
  refine w_iret (st := []) rfl d_z_nearestWord_29 ?_
  refine ⟨?_, rfl⟩
  unfold cdOf wdOf
  simp only [Nat.add_zero]
  rfl
set_option maxRecDepth 100000 in
set_option maxHeartbeats 4000000 in
theorem c_z_wordDistance (S : St) (kind : Int32) (part j p : Nat) (hk : S.1 4 4 = kind) (hp : part < parts kind) (hj : j < 4) (hp1 : p < 204) (hp2 : kd p = 0) (hp3 : ln p = 4) : Ev M_z_wordDistance [.ref 4, .int (nI part), .int (nI j), .ref p] S (fun v9 S' => v9 = some (.int (wdOf S kind (S.1 p) part j)) ∧ S' = S) := by
  refine Ev.of MF_z_wordDistance (all_cat rfl) (Nat.le_of_ble_eq_true rfl) ?_
  show Wp M_z_wordDistance 0 [.ref 4, .int (nI part), .int (nI j), .ref p, .null] [] _ _
  have hp4 : part < 4 := by have := parts_le kind; omega
  refine w_aload_n d_z_wordDistance_0 rfl ?_
  refine w_getIV (v := kind) d_z_wordDistance_1 FL_z_27 (by decide) (rfl) (rfl) (hk) ?_
  refine w_callS1 (N := M_q_partWidthOf) d_z_wordDistance_4 LK_z_49 MF_q_partWidthOf MS_q_partWidthOf NP_q_partWidthOf (by decide) rfl (Nat.le_of_ble_eq_true rfl) ?_
  refine Ev.det (c_q_partWidthOf _ _) ?_
  refine w_istore d_z_wordDistance_7 (Nat.le_of_ble_eq_true rfl) ?_
  refine w_aload_n d_z_wordDistance_9 rfl ?_
  refine w_getR d_z_wordDistance_10 FL_z_16 (by decide) (rfl) (rfl) ?_
  refine w_iload_n d_z_wordDistance_13 rfl ?_
  refine w_iload_n d_z_wordDistance_14 rfl ?_
  refine w_callS2 (N := M_q_wordRow) d_z_wordDistance_15 LK_z_52 MF_q_wordRow MS_q_wordRow NP_q_wordRow (by decide) rfl (Nat.le_of_ble_eq_true rfl) ?_
  refine Ev.det (c_q_wordRow _ _ _) ?_
  refine w_aaldN d_z_wordDistance_18 (by decide) (rfl) (show part * 4 + j < 16 from (by omega)) ?_
  show Wp _ _ _ (.ref (108 + (part * 4 + j)) :: _) _ _
  refine w_aload_n d_z_wordDistance_19 rfl ?_
  show Wp _ 20 _ _ _ _
  refine w_iload_n d_z_wordDistance_20 rfl ?_
  refine w_iload d_z_wordDistance_21 rfl ?_
  refine w_imulN d_z_wordDistance_23 ?_
  refine w_iload d_z_wordDistance_24 rfl ?_
  refine w_callS4 (N := M_q_distance) d_z_wordDistance_26 LK_z_56 MF_q_distance MS_q_distance NP_q_distance (by decide) rfl (Nat.le_of_ble_eq_true rfl) ?_
  refine Ev.det (c_q_distance _ _ _ _ _ (by omega) (kd_row108 (by omega)) (by rw [ln_row108 (by omega)]; exact pwid_le kind) hp1 hp2 (by rw [hp3]; exact pw_le hp) (by have := pwid_le kind; omega)) ?_
  refine w_iret (st := []) rfl d_z_wordDistance_29 ?_
  exact ⟨rfl, rfl⟩
set_option maxRecDepth 100000 in
set_option maxHeartbeats 4000000 in
theorem c_z_encode (S : St) (kind : Int32) (nl nc e : Nat) (hk : S.1 4 4 = kind) (hl : S.1 4 5 = nI nl) (hl1 : 0 < nl) (hl4 : nl ≤ 4) (hc : S.1 4 6 = nI nc) (hc1 : 0 < nc) (hc4 : nc ≤ 4) (he1 : 124 ≤ e) (he2 : e < 144) : Ev M_z_encode [.ref 4, .ref e] S (fun v9 S' => v9 = none ∧ S' = setRow (setRow (put S e 4 (nI (lsOf S nl (S.1 (e + 40))))) 18 (lfOf S (lsOf S nl (S.1 (e + 40))) (S.1 (e + 40))) 4) (e + 60) (fun p => nI (cdOf S kind nc (lfOf S (lsOf S nl (S.1 (e + 40))) (S.1 (e + 40))) p)) (parts kind)) := by
  refine Ev.of MF_z_encode (all_cat rfl) (Nat.le_of_ble_eq_true rfl) ?_
  show Wp M_z_encode 0 [.ref 4, .ref e, .null] [] _ _
  have hlt := lsOf_lt (S := S) (x := S.1 (e + 40)) hl1
  generalize hle : lsOf S nl (S.1 (e + 40)) = l at hlt ⊢
  have hpar := parts_le kind
  have hk0 : ∀ k, k ≤ parts kind → ∀ (S1 : St), S1 = setRow (setRow (put S e 4 (nI l)) 18 (lfOf S l (S.1 (e + 40))) 4) (e + 60) (fun p => nI (cdOf S kind nc (lfOf S l (S.1 (e + 40))) p)) k → Wp M_z_encode 34 [.ref 4, .ref e, .int (nI k)] [] S1 (fun v9 S' => v9 = none ∧ S' = setRow (setRow (put S e 4 (nI l)) 18 (lfOf S l (S.1 (e + 40))) 4) (e + 60) (fun p => nI (cdOf S kind nc (lfOf S l (S.1 (e + 40))) p)) (parts kind)) := by
    refine loopUp (parts kind) (fun k hk9 hn => ?_)
    intro S1 hS
    have e4 : ∀ i, S1.1 4 i = S.1 4 i := fun i => by rw [hS, setRow_ne (by omega), setRow_ne (by omega), put_ne (by omega)]
    have ew : ∀ j, j < 16 → S1.1 (108 + j) = S.1 (108 + j) := fun j hj => by rw [hS, setRow_row (by omega), setRow_row (by omega), put_row (by omega)]
    have ey : ∀ i, i < 4 → S1.1 18 i = (lfOf S l (S.1 (e + 40))) i := fun i hi => by rw [hS, setRow_ne (by omega), setRow_at hi]
    refine w_iload_n d_z_encode_34 rfl ?_
    refine w_aload_n d_z_encode_35 rfl ?_
    refine w_getIV (v := kind) d_z_encode_36 FL_z_27 (by decide) (rfl) (rfl) ((e4 4).trans hk) ?_
    refine w_callS1 (N := M_q_partsOf) d_z_encode_39 LK_z_41 MF_q_partsOf MS_q_partsOf NP_q_partsOf (by decide) rfl (Nat.le_of_ble_eq_true rfl) ?_
    refine Ev.det (c_q_partsOf _ _) ?_
    refine w_icmp_geN 66 d_z_encode_42 (by decide) (by omega) (by omega) (fun h42 => ?_) (fun h42 => ?_)
    · refine w_ret (st := []) rfl d_z_encode_66 ?_
      obtain rfl : k = parts kind := by omega
      exact ⟨rfl, hS⟩
    · refine w_aload_n d_z_encode_45 rfl ?_
      refine w_getR d_z_encode_46 FL_z_76 (by omega) (kd_ent (he1) (he2)) (fref_ent2 (he1)) ?_
      refine w_iload_n d_z_encode_49 rfl ?_
      refine w_aload_n d_z_encode_50 rfl ?_
      refine w_iload_n d_z_encode_51 rfl ?_
      refine w_aload_n d_z_encode_52 rfl ?_
      refine w_getR d_z_encode_53 FL_z_19 (by decide) (rfl) (rfl) ?_
      refine w_callV2 (N := M_z_nearestWord) d_z_encode_56 LK_z_79 MF_z_nearestWord MV_z_nearestWord NP_z_nearestWord (by decide) (by decide) (rfl) rfl rfl (Nat.le_of_ble_eq_true rfl) ?_
      refine Ev.det (c_z_nearestWord _ kind nc _ _ ((e4 4).trans hk) h42 ((e4 6).trans hc) hc1 hc4 (by decide) (by decide) (by decide)) ?_
      refine w_iastNP d_z_encode_59 (by omega) (kd_enta (by omega) (by omega)) (by rw [ln_enta (by omega) (by omega)]; omega) ?_
      refine w_iincN d_z_encode_60 rfl ?_
      refine w_goto 34 d_z_encode_63 (by decide) ?_
      show Wp _ 34 _ _ _ _
      refine hn h42 _ ?_
      refine Eq.trans (congrArg (fun v => put S1 (e + 60) k v) (congrArg nI (cdOf_congr (S' := S) (y' := (lfOf S l (S.1 (e + 40)))) h42 (fun j hj i hi => by rw [ew _ (by omega)]) ey))) ?_
      rw [hS]
      exact setRow_s rfl
  refine w_aload_n d_z_encode_0 rfl ?_
  refine w_aload_n d_z_encode_1 rfl ?_
  refine w_aload_n d_z_encode_2 rfl ?_
  refine w_getR d_z_encode_3 FL_z_60 (by omega) (kd_ent (he1) (he2)) (fref_ent1 (he1)) ?_
  refine w_callV1 (N := M_z_nearestList) d_z_encode_6 LK_z_65 MF_z_nearestList MV_z_nearestList NP_z_nearestList (by decide) (by decide) (rfl) rfl rfl (Nat.le_of_ble_eq_true rfl) ?_
  refine Ev.det (c_z_nearestList S nl _ hl hl1 hl4 (by omega) (kd_enta (by omega) (by omega)) (ln_enta (by omega) (by omega))) ?_
  rw [hle]
  refine w_putIP d_z_encode_9 FL_z_69 FW_9_4 (by omega) (kd_ent (he1) (he2)) (fref_entI (he1) (by decide)) ?_
  refine w_aload_n d_z_encode_12 rfl ?_
  refine w_getR d_z_encode_13 FL_z_60 (by omega) (kd_ent (he1) (he2)) (fref_ent1 (he1)) ?_
  refine w_aload_n d_z_encode_16 rfl ?_
  refine w_getR d_z_encode_17 FL_z_11 (by decide) (rfl) (rfl) ?_
  refine w_aload_n d_z_encode_20 rfl ?_
  show Wp _ 21 _ _ _ _
  refine w_getIV (v := (nI l)) d_z_encode_21 FL_z_69 (by omega) (kd_ent (he1) (he2)) (fref_entI (he1) (by decide)) (put_at) ?_
  refine w_aaldN d_z_encode_24 (by decide) (rfl) (show l < 4 from (by omega)) ?_
  show Wp _ _ _ (.ref (104 + l) :: _) _ _
  refine w_aload_n d_z_encode_25 rfl ?_
  refine w_getR d_z_encode_26 FL_z_19 (by decide) (rfl) (rfl) ?_
  refine w_callS3 (N := M_q_subtract) d_z_encode_29 LK_z_72 MF_q_subtract MS_q_subtract NP_q_subtract (by decide) rfl (Nat.le_of_ble_eq_true rfl) ?_
  refine Ev.det (c_q_subtract _ _ _ _ (by omega) (kd_enta (by omega) (by omega)) (ln_enta (by omega) (by omega)) (by omega) (kd_row104 (by omega)) (ln_row104 (by omega)) (by decide) (by decide) (by decide) (by omega)) ?_
  rw [put_row (show e + 40 ≠ e by omega), put_row (show 104 + l ≠ e by omega)]
  refine w_iconst (v := nI 0) d_z_encode_32 (by decide +kernel) ?_
  refine w_istore_n d_z_encode_33 (Nat.le_of_ble_eq_true rfl) ?_
  exact hk0 0 (by omega) _ (setRow_0 _ _ _).symm
set_option maxRecDepth 100000 in
set_option maxHeartbeats 4000000 in
theorem c_z_codeAsNumber (S : St) (kind : Int32) (nc e : Nat) (c : Nat → Nat) (hk : S.1 4 4 = kind) (hc : S.1 4 6 = nI nc) (hcd : ∀ k, k < parts kind → S.1 (e + 60) k = nI (c k)) (he1 : 124 ≤ e) (he2 : e < 144) : Ev M_z_codeAsNumber [.ref 4, .ref e] S (fun v9 S' => v9 = some (.int (nI (csum c nc (parts kind)))) ∧ S' = S) := by
  refine Ev.of MF_z_codeAsNumber (all_cat rfl) (Nat.le_of_ble_eq_true rfl) ?_
  show Wp M_z_codeAsNumber 0 [.ref 4, .ref e, .null, .null, .null] [] _ _
  have hpar := parts_le kind
  have hk0 : ∀ k, k ≤ parts kind → Wp M_z_codeAsNumber 7 [.ref 4, .ref e, .int (nI (csum c nc k)), .int (nI (nc ^ k)), .int (nI k)] [] S (fun v9 S' => v9 = some (.int (nI (csum c nc (parts kind)))) ∧ S' = S) := by
    refine loopUp (parts kind) (fun k hk9 hn => ?_)
    refine w_iload d_z_codeAsNumber_7 rfl ?_
    refine w_aload_n d_z_codeAsNumber_9 rfl ?_
    refine w_getIV (v := kind) d_z_codeAsNumber_10 FL_z_27 (by decide) (rfl) (rfl) (hk) ?_
    refine w_callS1 (N := M_q_partsOf) d_z_codeAsNumber_13 LK_z_41 MF_q_partsOf MS_q_partsOf NP_q_partsOf (by decide) rfl (Nat.le_of_ble_eq_true rfl) ?_
    refine Ev.det (c_q_partsOf _ _) ?_
    refine w_icmp_geN 44 d_z_codeAsNumber_16 (by decide) (by omega) (by omega) (fun h16 => ?_) (fun h16 => ?_)
    · refine w_iload_n d_z_codeAsNumber_44 rfl ?_
      refine w_iret (st := []) rfl d_z_codeAsNumber_45 ?_
      obtain rfl : k = parts kind := by omega
      exact ⟨rfl, rfl⟩
    · refine w_iload_n d_z_codeAsNumber_19 rfl ?_
      refine w_aload_n d_z_codeAsNumber_20 rfl ?_
      refine w_getR d_z_codeAsNumber_21 FL_z_76 (by omega) (kd_ent (he1) (he2)) (fref_ent2 (he1)) ?_
      refine w_iload d_z_codeAsNumber_24 rfl ?_
      refine w_ialdNV (v := (nI (c k))) d_z_codeAsNumber_26 (by omega) (kd_enta (by omega) (by omega)) (by rw [ln_enta (by omega) (by omega)]; omega) (hcd k h16) ?_
      refine w_iload_n d_z_codeAsNumber_27 rfl ?_
      refine w_imulN d_z_codeAsNumber_28 ?_
      refine w_iaddN d_z_codeAsNumber_29 ?_
      refine w_istore_n d_z_codeAsNumber_30 (Nat.le_of_ble_eq_true rfl) ?_
      refine w_iload_n d_z_codeAsNumber_31 rfl ?_
      refine w_aload_n d_z_codeAsNumber_32 rfl ?_
      show Wp _ 33 _ _ _ _
      refine w_getIV (v := (nI nc)) d_z_codeAsNumber_33 FL_z_34 (by decide) (rfl) (rfl) (hc) ?_
      refine w_imulN d_z_codeAsNumber_36 ?_
      refine w_istore_n d_z_codeAsNumber_37 (Nat.le_of_ble_eq_true rfl) ?_
      refine w_iincN d_z_codeAsNumber_38 rfl ?_
      refine w_goto 7 d_z_codeAsNumber_41 (by decide) ?_
      exact hn h16
  refine w_iconst (v := nI 0) d_z_codeAsNumber_0 (by decide +kernel) ?_
  refine w_istore_n d_z_codeAsNumber_1 (Nat.le_of_ble_eq_true rfl) ?_
  refine w_iconst (v := nI 1) d_z_codeAsNumber_2 (by decide +kernel) ?_
  refine w_istore_n d_z_codeAsNumber_3 (Nat.le_of_ble_eq_true rfl) ?_
  refine w_iconst (v := nI 0) d_z_codeAsNumber_4 (by decide +kernel) ?_
  refine w_istore d_z_codeAsNumber_5 (Nat.le_of_ble_eq_true rfl) ?_
  exact hk0 0 (by omega)
set_option maxRecDepth 100000 in
set_option maxHeartbeats 4000000 in
theorem c_z_codeDistance (S : St) (kind : Int32) (nc e g l : Nat) (c : Nat → Nat) (hk : S.1 4 4 = kind) (hl : S.1 e 4 = nI l) (hl4 : l < 4) (hcd : ∀ k, k < parts kind → S.1 (e + 60) k = nI (c k) ∧ c k < 4) (hg1 : g < 204) (hg2 : kd g = 0) (hg3 : ln g = 4) (he1 : 124 ≤ e) (he2 : e < 144) : Ev M_z_codeDistance [.ref 4, .ref g, .ref e] S (fun v9 S' => v9 = some (.int (if kind = nI 2 then dst (S.1 g) (S.1 (e + 40)) 4 else wsum S kind (lfOf S l (S.1 g)) c (parts kind))) ∧ S'.2 = S.2 ∧ ∀ a i, a ≠ 18 → S'.1 a i = S.1 a i) := by
  refine Ev.of MF_z_codeDistance (all_cat rfl) (Nat.le_of_ble_eq_true rfl) ?_
  show Wp M_z_codeDistance 0 [.ref 4, .ref g, .ref e, .null, .null] [] _ _
  have hpar := parts_le kind
  have hk0 : ¬ kind = nI 2 → ∀ k, k ≤ parts kind → Wp M_z_codeDistance 41 [.ref 4, .ref g, .ref e, .int ((wsum S kind (lfOf S l (S.1 g)) c k)), .int (nI k)] [] (setRow S 18 (lfOf S l (S.1 g)) 4) (fun v9 S' => v9 = some (.int (if kind = nI 2 then dst (S.1 g) (S.1 (e + 40)) 4 else wsum S kind (lfOf S l (S.1 g)) c (parts kind))) ∧ S'.2 = S.2 ∧ ∀ a i, a ≠ 18 → S'.1 a i = S.1 a i) := by
    intro hn2
    generalize hS : setRow S 18 (lfOf S l (S.1 g)) 4 = S1
    have e4 : ∀ i, S1.1 4 i = S.1 4 i := fun i => by rw [← hS, setRow_ne (by omega)]
    have ee : ∀ i, S1.1 (e + 60) i = S.1 (e + 60) i := fun i => by rw [← hS, setRow_ne (by omega)]
    have ew : ∀ j, j < 16 → S1.1 (108 + j) = S.1 (108 + j) := fun j hj => by rw [← hS, setRow_row (by omega)]
    have ey : ∀ i, i < 4 → S1.1 18 i = (lfOf S l (S.1 g)) i := fun i hi => by rw [← hS, setRow_at hi]
    refine loopUp _ (fun k hk1 hn => ?_)
    refine w_iload d_z_codeDistance_41 rfl ?_
    refine w_aload_n d_z_codeDistance_43 rfl ?_
    refine w_getIV (v := kind) d_z_codeDistance_44 FL_z_27 (by decide) (rfl) (rfl) ((e4 4).trans hk) ?_
    refine w_callS1 (N := M_q_partsOf) d_z_codeDistance_47 LK_z_41 MF_q_partsOf MS_q_partsOf NP_q_partsOf (by decide) rfl (Nat.le_of_ble_eq_true rfl) ?_
    refine Ev.det (c_q_partsOf _ _) ?_
    refine w_icmp_geN 79 d_z_codeDistance_50 (by decide) (by omega) (by omega) (fun h50 => ?_) (fun h50 => ?_)
    · refine w_iload_n d_z_codeDistance_79 rfl ?_
      refine w_iret (st := []) rfl d_z_codeDistance_80 ?_
      obtain rfl : k = parts kind := by omega
      refine ⟨by rw [if_neg hn2], ?_, ?_⟩
      · rw [← hS]; rfl
      · intro a i ha; rw [← hS, setRow_ne ha]
    · refine w_iload_n d_z_codeDistance_53 rfl ?_
      refine w_aload_n d_z_codeDistance_54 rfl ?_
      refine w_iload d_z_codeDistance_55 rfl ?_
      refine w_aload_n d_z_codeDistance_57 rfl ?_
      refine w_getR d_z_codeDistance_58 FL_z_76 (by omega) (kd_ent (he1) (he2)) (fref_ent2 (he1)) ?_
      refine w_iload d_z_codeDistance_61 rfl ?_
      refine w_ialdNV (v := (nI (c k))) d_z_codeDistance_63 (by omega) (kd_enta (by omega) (by omega)) (by rw [ln_enta (by omega) (by omega)]; omega) ((ee k).trans (hcd k h50).1) ?_
      refine w_aload_n d_z_codeDistance_64 rfl ?_
      refine w_getR d_z_codeDistance_65 FL_z_19 (by decide) (rfl) (rfl) ?_
      refine w_callV3 (N := M_z_wordDistance) d_z_codeDistance_68 LK_z_83 MF_z_wordDistance MV_z_wordDistance NP_z_wordDistance (by decide) (by decide) (rfl) rfl rfl (Nat.le_of_ble_eq_true rfl) ?_
      refine Ev.det (c_z_wordDistance _ kind _ _ _ ((e4 4).trans hk) h50 (by have := (hcd k h50).2; omega) (by decide) (by decide) (by decide)) ?_
      rw [wdOf_congr (S' := S) (y' := (lfOf S l (S.1 g))) h50 (fun i hi => by rw [ew _ (by have := (hcd k h50).2; omega)]) ey]
      refine w_iadd d_z_codeDistance_71 ?_
      show Wp _ 72 _ _ _ _
      refine w_istore_n d_z_codeDistance_72 (Nat.le_of_ble_eq_true rfl) ?_
      refine w_iincN d_z_codeDistance_73 rfl ?_
      refine w_goto 41 d_z_codeDistance_76 (by decide) ?_
      exact hn h50
  refine w_aload_n d_z_codeDistance_0 rfl ?_
  refine w_getIV (v := kind) d_z_codeDistance_1 FL_z_27 (by decide) (rfl) (rfl) (hk) ?_
  refine w_iconst (v := nI 2) d_z_codeDistance_4 (by decide +kernel) ?_
  refine w_icmp_ne 19 d_z_codeDistance_5 (by decide) (fun h5 => ?_) (fun h5 => ?_)
  · refine w_aload_n d_z_codeDistance_19 rfl ?_
    refine w_aload_n d_z_codeDistance_20 rfl ?_
    refine w_getR d_z_codeDistance_21 FL_z_11 (by decide) (rfl) (rfl) ?_
    refine w_aload_n d_z_codeDistance_24 rfl ?_
    refine w_getIV (v := (nI l)) d_z_codeDistance_25 FL_z_69 (by omega) (kd_ent (he1) (he2)) (fref_entI (he1) (by decide)) (hl) ?_
    refine w_aaldN d_z_codeDistance_28 (by decide) (rfl) (show l < 4 from (by omega)) ?_
    show Wp _ _ _ (.ref (104 + l) :: _) _ _
    refine w_aload_n d_z_codeDistance_29 rfl ?_
    refine w_getR d_z_codeDistance_30 FL_z_19 (by decide) (rfl) (rfl) ?_
    refine w_callS3 (N := M_q_subtract) d_z_codeDistance_33 LK_z_72 MF_q_subtract MS_q_subtract NP_q_subtract (by decide) rfl (Nat.le_of_ble_eq_true rfl) ?_
    refine Ev.det (c_q_subtract _ _ _ _ hg1 hg2 hg3 (by omega) (kd_row104 (by omega)) (ln_row104 (by omega)) (by decide) (by decide) (by decide) (by omega)) ?_
    refine w_iconst (v := nI 0) d_z_codeDistance_36 (by decide +kernel) ?_
    refine w_istore_n d_z_codeDistance_37 (Nat.le_of_ble_eq_true rfl) ?_
    show Wp _ 38 _ _ _ _
    refine w_iconst (v := nI 0) d_z_codeDistance_38 (by decide +kernel) ?_
    refine w_istore d_z_codeDistance_39 (Nat.le_of_ble_eq_true rfl) ?_
    exact hk0 h5 0 (by omega)
  · refine w_aload_n d_z_codeDistance_8 rfl ?_
    refine w_aload_n d_z_codeDistance_9 rfl ?_
    refine w_getR d_z_codeDistance_10 FL_z_60 (by omega) (kd_ent (he1) (he2)) (fref_ent1 (he1)) ?_
    refine w_iconst (v := nI 0) d_z_codeDistance_13 (by decide +kernel) ?_
    refine w_iconst (v := nI 4) d_z_codeDistance_14 (by decide +kernel) ?_
    refine w_callS4 (N := M_q_distance) d_z_codeDistance_15 LK_z_56 MF_q_distance MS_q_distance NP_q_distance (by decide) rfl (Nat.le_of_ble_eq_true rfl) ?_
    refine Ev.det (c_q_distance _ _ _ _ _ hg1 hg2 (by rw [hg3]; exact Nat.le_refl 4) (by omega) (kd_enta (by omega) (by omega)) (by rw [ln_enta (by omega) (by omega)]; exact Nat.le_refl 4) (by decide)) ?_
    simp only [Nat.zero_add]
    refine w_iret (st := []) rfl d_z_codeDistance_18 ?_
    exact ⟨by rw [if_pos h5], rfl, fun _ _ _ => rfl⟩
set_option maxRecDepth 100000 in
set_option maxHeartbeats 4000000 in
theorem c_z_listsBefore (S : St) (nl l g : Nat) (hl : S.1 4 5 = nI nl) (hl4 : nl ≤ 4) (hll : l < nl) (hg1 : g < 204) (hg2 : kd g = 0) (hg3 : ln g = 4) : Ev M_z_listsBefore [.ref 4, .int (nI l), .ref g] S (fun v9 S' => v9 = some (.int (nI (lbef (fun j => dst (S.1 (104 + j)) (S.1 g) 4) l nl))) ∧ S' = S) := by
  refine Ev.of MF_z_listsBefore (all_cat rfl) (Nat.le_of_ble_eq_true rfl) ?_
  show Wp M_z_listsBefore 0 [.ref 4, .int (nI l), .ref g, .null, .null, .null, .null] [] _ _
  have hk0 : ∀ k, k ≤ nl → ∀ (b : Nat) (x6 : Value), b = lbef (fun j => dst (S.1 (104 + j)) (S.1 g) 4) l k → Wp M_z_listsBefore 19 [.ref 4, .int (nI l), .ref g, .int (((fun j => dst (S.1 (104 + j)) (S.1 g) 4) l)), .int (nI b), .int (nI k), x6] [] S (fun v9 S' => v9 = some (.int (nI (lbef (fun j => dst (S.1 (104 + j)) (S.1 g) 4) l nl))) ∧ S' = S) := by
    refine loopUp (nl) (fun k hk9 hn => ?_)
    intro b x6 hb
    have hbk := lbef_le (fun j => dst (S.1 (104 + j)) (S.1 g) 4) l k
    refine w_iload d_z_listsBefore_19 rfl ?_
    refine w_aload_n d_z_listsBefore_21 rfl ?_
    refine w_getIV (v := (nI nl)) d_z_listsBefore_22 FL_z_31 (by decide) (rfl) (rfl) (hl) ?_
    refine w_icmp_geN 70 d_z_listsBefore_25 (by decide) (by omega) (by omega) (fun h25 => ?_) (fun h25 => ?_)
    · refine w_iload d_z_listsBefore_70 rfl ?_
      refine w_iret (st := []) rfl d_z_listsBefore_72 ?_
      obtain rfl : k = nl := by omega
      exact ⟨by rw [hb], rfl⟩
    · refine w_aload_n d_z_listsBefore_28 rfl ?_
      refine w_getR d_z_listsBefore_29 FL_z_11 (by decide) (rfl) (rfl) ?_
      refine w_iload d_z_listsBefore_32 rfl ?_
      refine w_aaldN d_z_listsBefore_34 (by decide) (rfl) (show k < 4 from (by omega)) ?_
      show Wp _ _ _ (.ref (104 + k) :: _) _ _
      refine w_aload_n d_z_listsBefore_35 rfl ?_
      refine w_iconst (v := nI 0) d_z_listsBefore_36 (by decide +kernel) ?_
      refine w_iconst (v := nI 4) d_z_listsBefore_37 (by decide +kernel) ?_
      refine w_callS4 (N := M_q_distance) d_z_listsBefore_38 LK_z_56 MF_q_distance MS_q_distance NP_q_distance (by decide) rfl (Nat.le_of_ble_eq_true rfl) ?_
      refine Ev.det (c_q_distance _ _ _ _ _ (by omega) (kd_row104 (by omega)) (by rw [ln_row104 (by omega)]; exact Nat.le_refl 4) hg1 hg2 (by rw [hg3]; exact Nat.le_refl 4) (by decide)) ?_
      simp only [Nat.zero_add]
      refine w_istore d_z_listsBefore_41 (Nat.le_of_ble_eq_true rfl) ?_
      refine w_iload d_z_listsBefore_43 rfl ?_
      refine w_iload_n d_z_listsBefore_45 rfl ?_
      show Wp _ 46 _ _ _ _
      refine w_icmp_lt 61 d_z_listsBefore_46 (by decide) (fun h46 => ?_) (fun h46 => ?_)
      · refine w_iincN d_z_listsBefore_61 rfl ?_
        refine w_iincN d_z_listsBefore_64 rfl ?_
        refine w_goto 19 d_z_listsBefore_67 (by decide) ?_
        exact hn h25 _ _ (by show _ = lbef (fun j => dst (S.1 (104 + j)) (S.1 g) 4) l k + (if _ then 1 else 0); rw [← hb, if_pos (Or.inl h46)])
      · refine w_iload d_z_listsBefore_49 rfl ?_
        refine w_iload_n d_z_listsBefore_51 rfl ?_
        refine w_icmp_ne 64 d_z_listsBefore_52 (by decide) (fun h52 => ?_) (fun h52 => ?_)
        · refine w_iincN d_z_listsBefore_64 rfl ?_
          refine w_goto 19 d_z_listsBefore_67 (by decide) ?_
          exact hn h25 _ _ (by show _ = lbef (fun j => dst (S.1 (104 + j)) (S.1 g) 4) l k + (if _ then 1 else 0); rw [← hb, if_neg (fun q => q.elim h46 (fun q => h52 q.1))]; rfl)
        · refine w_iload d_z_listsBefore_55 rfl ?_
          refine w_iload_n d_z_listsBefore_57 rfl ?_
          refine w_icmp_geN 64 d_z_listsBefore_58 (by decide) (by omega) (by omega) (fun h58 => ?_) (fun h58 => ?_)
          · refine w_iincN d_z_listsBefore_64 rfl ?_
            refine w_goto 19 d_z_listsBefore_67 (by decide) ?_
            exact hn h25 _ _ (by show _ = lbef (fun j => dst (S.1 (104 + j)) (S.1 g) 4) l k + (if _ then 1 else 0); rw [← hb, if_neg (fun q => q.elim h46 (fun q => by omega))]; rfl)
          · refine w_iincN d_z_listsBefore_61 rfl ?_
            refine w_iincN d_z_listsBefore_64 rfl ?_
            refine w_goto 19 d_z_listsBefore_67 (by decide) ?_
            exact hn h25 _ _ (by show _ = lbef (fun j => dst (S.1 (104 + j)) (S.1 g) 4) l k + (if _ then 1 else 0); rw [← hb, if_pos (Or.inr ⟨h52, h58⟩)])
  refine w_aload_n d_z_listsBefore_0 rfl ?_
  refine w_getR d_z_listsBefore_1 FL_z_11 (by decide) (rfl) (rfl) ?_
  refine w_iload_n d_z_listsBefore_4 rfl ?_
  refine w_aaldN d_z_listsBefore_5 (by decide) (rfl) (show l < 4 from (by omega)) ?_
  show Wp _ _ _ (.ref (104 + l) :: _) _ _
  refine w_aload_n d_z_listsBefore_6 rfl ?_
  refine w_iconst (v := nI 0) d_z_listsBefore_7 (by decide +kernel) ?_
  refine w_iconst (v := nI 4) d_z_listsBefore_8 (by decide +kernel) ?_
  refine w_callS4 (N := M_q_distance) d_z_listsBefore_9 LK_z_56 MF_q_distance MS_q_distance NP_q_distance (by decide) rfl (Nat.le_of_ble_eq_true rfl) ?_
  refine Ev.det (c_q_distance _ _ _ _ _ (by omega) (kd_row104 (by omega)) (by rw [ln_row104 (by omega)]; exact Nat.le_refl 4) hg1 hg2 (by rw [hg3]; exact Nat.le_refl 4) (by decide)) ?_
  simp only [Nat.zero_add]
  refine w_istore_n d_z_listsBefore_12 (Nat.le_of_ble_eq_true rfl) ?_
  refine w_iconst (v := nI 0) d_z_listsBefore_13 (by decide +kernel) ?_
  refine w_istore d_z_listsBefore_14 (Nat.le_of_ble_eq_true rfl) ?_
  show Wp _ 16 _ _ _ _
  refine w_iconst (v := nI 0) d_z_listsBefore_16 (by decide +kernel) ?_
  refine w_istore d_z_listsBefore_17 (Nat.le_of_ble_eq_true rfl) ?_
  exact hk0 0 (by omega) 0 _ rfl
end
section
/-! The table of entries: m of the twenty rows are in use, in the order S.2. -/
theorem w_ealdNV {M : Mt} {pc : Nat} {L st : List Value} {S : St} {Z : Option Value → St → Prop} {n b : Nat} (hd : decode M.2.1 pc = .ok (.aaload, 1)) (hn : n < 20) (he : S.2 n = b) (h : Wp M (pc + 1) L (.ref b :: st) S Z) : Wp M pc L (.int (nI n) :: .ref 19 :: st) S Z := w_ealdN hd hn (by rw [he]; exact h)
/-- the first place below n where f is v, or n -/
def ffind (f : Nat → Int32) (v : Int32) : Nat → Nat
  | 0 => 0
  | n + 1 => if ffind f v n < n then ffind f v n else if f n = v then n else n + 1
theorem ffind_le (f : Nat → Int32) (v : Int32) : ∀ n, ffind f v n ≤ n
  | 0 => Nat.le_refl 0
  | n + 1 => by
    have := ffind_le f v n
    show (if ffind f v n < n then ffind f v n else if f n = v then n else n + 1) ≤ n + 1
    split
    · omega
    · split <;> omega
theorem ffind_none {f : Nat → Int32} {v : Int32} : ∀ {n : Nat}, (∀ j, j < n → f j ≠ v) → ffind f v n = n
  | 0, _ => rfl
  | n + 1, h => by
    show (if ffind f v n < n then ffind f v n else if f n = v then n else n + 1) = n + 1
    rw [ffind_none (fun j hj => h j (by omega)), if_neg (by omega), if_neg (h n (by omega))]
theorem ffind_hit {f : Nat → Int32} {v : Int32} : ∀ {n i : Nat}, i < n → (∀ j, j < i → f j ≠ v) → f i = v → ffind f v n = i
  | 0, i, h, _, _ => absurd h (by omega)
  | n + 1, i, h, h1, h2 => by
    show (if ffind f v n < n then ffind f v n else if f n = v then n else n + 1) = i
    by_cases hi : i < n
    · rw [ffind_hit hi h1 h2, if_pos hi]
    · obtain rfl : i = n := by omega
      rw [ffind_none h1, if_neg (by omega), if_pos h2]
theorem ffind_spec {f : Nat → Int32} {v : Int32} : ∀ {n : Nat}, ffind f v n < n → f (ffind f v n) = v ∧ ∀ j, j < ffind f v n → f j ≠ v
  | 0, h => absurd h (by omega)
  | n + 1, h => by
    by_cases hl : ffind f v n < n
    · have e : ffind f v (n + 1) = ffind f v n := by show (if ffind f v n < n then _ else _) = _; rw [if_pos hl]
      rw [e]
      exact ffind_spec hl
    · have hn : ffind f v n = n := by have := ffind_le f v n; omega
      by_cases hv : f n = v
      · have e : ffind f v (n + 1) = n := by show (if ffind f v n < n then _ else if f n = v then n else n + 1) = _; rw [if_neg hl, if_pos hv]
        rw [e]
        refine ⟨hv, fun j hj q => ?_⟩
        by_cases ha : ∃ i, i < n ∧ f i = v ∧ ∀ k, k < i → f k ≠ v
        · obtain ⟨i, h1, h2, h3⟩ := ha
          have := ffind_hit h1 h3 h2
          omega
        · obtain ⟨i, hi1, hi2⟩ := pk_least (fun i => i < n ∧ f i = v) ⟨j, hj, q⟩
          exact ha ⟨i, hi1.1, hi1.2, fun k hk z => hi2 k hk ⟨by omega, z⟩⟩
      · have e : ffind f v (n + 1) = n + 1 := by show (if ffind f v n < n then _ else if f n = v then n else n + 1) = _; rw [if_neg hl, if_neg hv]
        omega
def cntI (f : Nat → Int32) (v : Int32) : Nat → Nat
  | 0 => 0
  | n + 1 => cntI f v n + if f n = v then 1 else 0
theorem cntI_le (f : Nat → Int32) (v : Int32) : ∀ n, cntI f v n ≤ n
  | 0 => Nat.le_refl 0
  | n + 1 => by
    have := cntI_le f v n
    show cntI f v n + (if _ then 1 else 0) ≤ n + 1
    split <;> omega
set_option maxRecDepth 100000 in
set_option maxHeartbeats 4000000 in
theorem c_b_placeOf (S : St) (v : Int32) (m : Nat) (hm : S.1 5 1 = nI m) (hm20 : m ≤ 20) (hT : ∀ i, i < 20 → 124 ≤ S.2 i ∧ S.2 i < 144) : Ev M_b_placeOf [.ref 5, .int v] S (fun v9 S' => v9 = some (.int (if ffind (fun i => S.1 (S.2 i) 3) v m < m then nI (ffind (fun i => S.1 (S.2 i) 3) v m) else -1)) ∧ S' = S) := by
  refine Ev.of MF_b_placeOf (all_cat rfl) (Nat.le_of_ble_eq_true rfl) ?_
  show Wp M_b_placeOf 0 [.ref 5, .int v, .null] [] _ _
  have hk0 : ∀ k, k ≤ m → (∀ j, j < k → (fun i => S.1 (S.2 i) 3) j ≠ v) → Wp M_b_placeOf 2 [.ref 5, .int v, .int (nI k)] [] S (fun v9 S' => v9 = some (.int (if ffind (fun i => S.1 (S.2 i) 3) v m < m then nI (ffind (fun i => S.1 (S.2 i) 3) v m) else -1)) ∧ S' = S) := by
    refine loopUp (m) (fun k hk9 hn => ?_)
    intro hno
    refine w_iload_n d_b_placeOf_2 rfl ?_
    refine w_aload_n d_b_placeOf_3 rfl ?_
    refine w_getIV (v := (nI m)) d_b_placeOf_4 FL_b_18 (by decide) (rfl) (rfl) (hm) ?_
    refine w_icmp_geN 31 d_b_placeOf_7 (by decide) (by omega) (by omega) (fun h7 => ?_) (fun h7 => ?_)
    · refine w_iconst (v := -1) d_b_placeOf_31 (by decide +kernel) ?_
      refine w_iret (st := []) rfl d_b_placeOf_32 ?_
      obtain rfl : k = m := by omega
      exact ⟨by rw [ffind_none hno, if_neg (Nat.lt_irrefl _)], rfl⟩
    · refine w_aload_n d_b_placeOf_10 rfl ?_
      refine w_getR d_b_placeOf_11 FL_b_11 (by decide) (rfl) (rfl) ?_
      refine w_iload_n d_b_placeOf_14 rfl ?_
      refine w_ealdN d_b_placeOf_15 (by omega) ?_
      refine w_getI d_b_placeOf_16 FL_b_22 (by have := hT k (by omega); omega) (kd_ent ((hT k (by omega)).1) ((hT k (by omega)).2)) (fref_entI ((hT k (by omega)).1) (by decide)) ?_
      refine w_iload_n d_b_placeOf_19 rfl ?_
      refine w_icmp_ne 25 d_b_placeOf_20 (by decide) (fun h20 => ?_) (fun h20 => ?_)
      · refine w_iincN d_b_placeOf_25 rfl ?_
        refine w_goto 2 d_b_placeOf_28 (by decide) ?_
        exact hn h7 (lt_s hno h20)
      · refine w_iload_n d_b_placeOf_23 rfl ?_
        refine w_iret (st := []) rfl d_b_placeOf_24 ?_
        exact ⟨by rw [ffind_hit (by omega) hno h20, if_pos (by omega)], rfl⟩
  refine w_iconst (v := nI 0) d_b_placeOf_0 (by decide +kernel) ?_
  refine w_istore_n d_b_placeOf_1 (Nat.le_of_ble_eq_true rfl) ?_
  exact hk0 0 (by omega) lt_0
set_option maxRecDepth 100000 in
set_option maxHeartbeats 4000000 in
theorem c_b_countInList (S : St) (v : Int32) (m : Nat) (hm : S.1 5 1 = nI m) (hm20 : m ≤ 20) (hT : ∀ i, i < 20 → 124 ≤ S.2 i ∧ S.2 i < 144) : Ev M_b_countInList [.ref 5, .int v] S (fun v9 S' => v9 = some (.int (nI (cntI (fun i => S.1 (S.2 i) 4) v m))) ∧ S' = S) := by
  refine Ev.of MF_b_countInList (all_cat rfl) (Nat.le_of_ble_eq_true rfl) ?_
  show Wp M_b_countInList 0 [.ref 5, .int v, .null, .null] [] _ _
  have hk0 : ∀ k, k ≤ m → ∀ (b : Nat), b = cntI (fun i => S.1 (S.2 i) 4) v k → Wp M_b_countInList 4 [.ref 5, .int v, .int (nI b), .int (nI k)] [] S (fun v9 S' => v9 = some (.int (nI (cntI (fun i => S.1 (S.2 i) 4) v m))) ∧ S' = S) := by
    refine loopUp (m) (fun k hk9 hn => ?_)
    intro b hb
    refine w_iload_n d_b_countInList_4 rfl ?_
    refine w_aload_n d_b_countInList_5 rfl ?_
    refine w_getIV (v := (nI m)) d_b_countInList_6 FL_b_18 (by decide) (rfl) (rfl) (hm) ?_
    refine w_icmp_geN 34 d_b_countInList_9 (by decide) (by omega) (by omega) (fun h9 => ?_) (fun h9 => ?_)
    · refine w_iload_n d_b_countInList_34 rfl ?_
      refine w_iret (st := []) rfl d_b_countInList_35 ?_
      obtain rfl : k = m := by omega
      exact ⟨by rw [hb], rfl⟩
    · refine w_aload_n d_b_countInList_12 rfl ?_
      refine w_getR d_b_countInList_13 FL_b_11 (by decide) (rfl) (rfl) ?_
      refine w_iload_n d_b_countInList_16 rfl ?_
      refine w_ealdN d_b_countInList_17 (by omega) ?_
      refine w_getI d_b_countInList_18 FL_b_25 (by have := hT k (by omega); omega) (kd_ent ((hT k (by omega)).1) ((hT k (by omega)).2)) (fref_entI ((hT k (by omega)).1) (by decide)) ?_
      refine w_iload_n d_b_countInList_21 rfl ?_
      refine w_icmp_ne 28 d_b_countInList_22 (by decide) (fun h22 => ?_) (fun h22 => ?_)
      · refine w_iincN d_b_countInList_28 rfl ?_
        refine w_goto 4 d_b_countInList_31 (by decide) ?_
        exact hn h9 _ (by show _ = cntI (fun i => S.1 (S.2 i) 4) v k + (if _ then 1 else 0); rw [← hb, if_neg h22, Nat.add_zero])
      · refine w_iincN d_b_countInList_25 rfl ?_
        refine w_iincN d_b_countInList_28 rfl ?_
        refine w_goto 4 d_b_countInList_31 (by decide) ?_
        exact hn h9 _ (by show _ = cntI (fun i => S.1 (S.2 i) 4) v k + (if _ then 1 else 0); rw [← hb, if_pos h22])
  refine w_iconst (v := nI 0) d_b_countInList_0 (by decide +kernel) ?_
  refine w_istore_n d_b_countInList_1 (Nat.le_of_ble_eq_true rfl) ?_
  refine w_iconst (v := nI 0) d_b_countInList_2 (by decide +kernel) ?_
  refine w_istore_n d_b_countInList_3 (Nat.le_of_ble_eq_true rfl) ?_
  exact hk0 0 (by omega) 0 rfl
set_option maxRecDepth 100000 in
set_option maxHeartbeats 4000000 in
theorem c_b_makeRoom (S : St) (v : Int32) (m : Nat) (hm : S.1 5 1 = nI m) (hm20 : m < 20) (hT : ∀ i, i < 20 → 124 ≤ S.2 i ∧ S.2 i < 144) (hne : ∀ i, i < m → S.2 i ≠ S.2 m) : Ev M_b_makeRoom [.ref 5, .int v] S (fun v9 S' => ∃ p, p ≤ m ∧ v9 = some (.int (nI p)) ∧ (∀ i, p ≤ i → i < m → ¬ S.1 (S.2 i) 3 ≤ v) ∧ (0 < p → S.1 (S.2 (p - 1)) 3 ≤ v) ∧ S'.1 = (put (put S (S.2 m) 3 v) 5 1 (nI (m + 1))).1 ∧ ∀ i, S'.2 i = if i = p then S.2 m else if p < i ∧ i ≤ m then S.2 (i - 1) else S.2 i) := by
  refine Ev.of MF_b_makeRoom (all_cat rfl) (Nat.le_of_ble_eq_true rfl) ?_
  show Wp M_b_makeRoom 0 [.ref 5, .int v, .null, .null] [] _ _
  have hk0 : ∀ k, ∀ (S1 : St), k ≤ m → S1.1 = (put S (S.2 m) 3 v).1 → (∀ i, S1.2 i = if k < i ∧ i ≤ m then S.2 (i - 1) else S.2 i) → (∀ i, k ≤ i → i < m → ¬ S.1 (S.2 i) 3 ≤ v) → Wp M_b_makeRoom 20 [.ref 5, .int v, .ref ((S.2 m)), .int (nI k)] [] S1 (fun v9 S' => ∃ p, p ≤ m ∧ v9 = some (.int (nI p)) ∧ (∀ i, p ≤ i → i < m → ¬ S.1 (S.2 i) 3 ≤ v) ∧ (0 < p → S.1 (S.2 (p - 1)) 3 ≤ v) ∧ S'.1 = (put (put S (S.2 m) 3 v) 5 1 (nI (m + 1))).1 ∧ ∀ i, S'.2 i = if i = p then S.2 m else if p < i ∧ i ≤ m then S.2 (i - 1) else S.2 i) := by
    refine loopDown (fun k  hn => ?_)
    intro S1 hkm h1 h2 hgt
    refine w_iload_n d_b_makeRoom_20 rfl ?_
    refine w_if_leN 59 d_b_makeRoom_21 (by decide) (by omega) (fun h21 => ?_) (fun h21 => ?_)
    · refine w_aload_n d_b_makeRoom_59 rfl ?_
      refine w_getR d_b_makeRoom_60 FL_b_11 (by decide) (rfl) (rfl) ?_
      refine w_iload_n d_b_makeRoom_63 rfl ?_
      refine w_aload_n d_b_makeRoom_64 rfl ?_
      refine w_eastNP d_b_makeRoom_65 (by omega) ((hT m (by omega)).1) ((hT m (by omega)).2) ?_
      refine w_aload_n d_b_makeRoom_66 rfl ?_
      refine w_dup d_b_makeRoom_67 rfl ?_
      refine w_getIV (v := (nI m)) d_b_makeRoom_68 FL_b_18 (by decide) (rfl) (rfl) (by show S1.1 5 1 = nI m; rw [h1, put_ne (by have := hT m (by omega); omega)]; exact hm) ?_
      refine w_iconst (v := nI 1) d_b_makeRoom_71 (by decide +kernel) ?_
      refine w_iaddN d_b_makeRoom_72 ?_
      refine w_putIP d_b_makeRoom_73 FL_b_18 FW_5_1 (by decide) (rfl) (rfl) ?_
      show Wp _ 76 _ _ _ _
      refine w_iload_n d_b_makeRoom_76 rfl ?_
      refine w_iret (st := []) rfl d_b_makeRoom_77 ?_
      refine ⟨k, hkm, rfl, hgt, fun q => absurd q (by omega), ?_, ?_⟩
      · show (put (putT S1 k (S.2 m)) 5 1 (nI (m + 1))).1 = _
        have e5 : (putT S1 k (S.2 m)).1 = (put S (S.2 m) 3 v).1 := h1
        show up2 (putT S1 k (S.2 m)).1 5 1 _ = up2 (put S (S.2 m) 3 v).1 5 1 _
        rw [e5]
      · intro i
        show upT S1.2 k (S.2 m) i = _
        unfold upT
        by_cases hi : i = k
        · rw [if_pos hi, if_pos hi]
        · rw [if_neg hi, if_neg hi, h2 i]
    · refine w_aload_n d_b_makeRoom_24 rfl ?_
      refine w_getR d_b_makeRoom_25 FL_b_11 (by decide) (rfl) (rfl) ?_
      refine w_iload_n d_b_makeRoom_28 rfl ?_
      refine w_iconst (v := nI 1) d_b_makeRoom_29 (by decide +kernel) ?_
      refine w_isubN d_b_makeRoom_30 (by omega) ?_
      refine w_ealdNV (b := ((S.2 (k - 1)))) d_b_makeRoom_31 (by omega) (by rw [h2, if_neg (by omega)]) ?_
      refine w_getIV (v := ((S.1 (S.2 (k - 1)) 3))) d_b_makeRoom_32 FL_b_22 (by have := hT (k - 1) (by omega); omega) (kd_ent ((hT (k - 1) (by omega)).1) ((hT (k - 1) (by omega)).2)) (fref_entI ((hT (k - 1) (by omega)).1) (by decide)) (by rw [h1]; exact put_ne (fun q => hne (k - 1) (by omega) q.1)) ?_
      refine w_iload_n d_b_makeRoom_35 rfl ?_
      refine w_icmp_le 59 d_b_makeRoom_36 (by decide) (fun h36 => ?_) (fun h36 => ?_)
      · refine w_aload_n d_b_makeRoom_59 rfl ?_
        refine w_getR d_b_makeRoom_60 FL_b_11 (by decide) (rfl) (rfl) ?_
        refine w_iload_n d_b_makeRoom_63 rfl ?_
        refine w_aload_n d_b_makeRoom_64 rfl ?_
        refine w_eastNP d_b_makeRoom_65 (by omega) ((hT m (by omega)).1) ((hT m (by omega)).2) ?_
        refine w_aload_n d_b_makeRoom_66 rfl ?_
        refine w_dup d_b_makeRoom_67 rfl ?_
        refine w_getIV (v := (nI m)) d_b_makeRoom_68 FL_b_18 (by decide) (rfl) (rfl) (by show S1.1 5 1 = nI m; rw [h1, put_ne (by have := hT m (by omega); omega)]; exact hm) ?_
        refine w_iconst (v := nI 1) d_b_makeRoom_71 (by decide +kernel) ?_
        refine w_iaddN d_b_makeRoom_72 ?_
        refine w_putIP d_b_makeRoom_73 FL_b_18 FW_5_1 (by decide) (rfl) (rfl) ?_
        show Wp _ 76 _ _ _ _
        refine w_iload_n d_b_makeRoom_76 rfl ?_
        refine w_iret (st := []) rfl d_b_makeRoom_77 ?_
        refine ⟨k, hkm, rfl, hgt, fun _ => h36, ?_, ?_⟩
        · show (put (putT S1 k (S.2 m)) 5 1 (nI (m + 1))).1 = _
          have e5 : (putT S1 k (S.2 m)).1 = (put S (S.2 m) 3 v).1 := h1
          show up2 (putT S1 k (S.2 m)).1 5 1 _ = up2 (put S (S.2 m) 3 v).1 5 1 _
          rw [e5]
        · intro i
          show upT S1.2 k (S.2 m) i = _
          unfold upT
          by_cases hi : i = k
          · rw [if_pos hi, if_pos hi]
          · rw [if_neg hi, if_neg hi, h2 i]
      · refine w_aload_n d_b_makeRoom_39 rfl ?_
        refine w_getR d_b_makeRoom_40 FL_b_11 (by decide) (rfl) (rfl) ?_
        refine w_iload_n d_b_makeRoom_43 rfl ?_
        refine w_aload_n d_b_makeRoom_44 rfl ?_
        refine w_getR d_b_makeRoom_45 FL_b_11 (by decide) (rfl) (rfl) ?_
        refine w_iload_n d_b_makeRoom_48 rfl ?_
        refine w_iconst (v := nI 1) d_b_makeRoom_49 (by decide +kernel) ?_
        refine w_isubN d_b_makeRoom_50 (by omega) ?_
        refine w_ealdNV (b := ((S.2 (k - 1)))) d_b_makeRoom_51 (by omega) (by rw [h2, if_neg (by omega)]) ?_
        refine w_eastNP d_b_makeRoom_52 (by omega) ((hT (k - 1) (by omega)).1) ((hT (k - 1) (by omega)).2) ?_
        refine w_idecN d_b_makeRoom_53 rfl (by omega) ?_
        show Wp _ 56 _ _ _ _
        refine w_goto 20 d_b_makeRoom_56 (by decide) ?_
        refine hn (by omega) _ (by omega) h1 ?_ ?_
        · intro i
          show upT S1.2 k _ i = _
          unfold upT
          by_cases hi : i = k
          · rw [if_pos hi, if_pos (by omega), hi]
          · rw [if_neg hi, h2 i]
            by_cases hi2 : k < i ∧ i ≤ m
            · rw [if_pos hi2, if_pos (by omega)]
            · rw [if_neg hi2, if_neg (by omega)]
        · intro i hi1 hi2
          by_cases hi : i = k - 1
          · rw [hi]; exact h36
          · exact hgt i (by omega) hi2
  refine w_aload_n d_b_makeRoom_0 rfl ?_
  refine w_getR d_b_makeRoom_1 FL_b_11 (by decide) (rfl) (rfl) ?_
  refine w_aload_n d_b_makeRoom_4 rfl ?_
  refine w_getIV (v := (nI m)) d_b_makeRoom_5 FL_b_18 (by decide) (rfl) (rfl) (hm) ?_
  refine w_ealdN d_b_makeRoom_8 (by omega) ?_
  refine w_astore_n d_b_makeRoom_9 (Nat.le_of_ble_eq_true rfl) ?_
  refine w_aload_n d_b_makeRoom_10 rfl ?_
  refine w_iload_n d_b_makeRoom_11 rfl ?_
  refine w_putIP d_b_makeRoom_12 FL_b_22 FW_9_3 (by have := hT m (by omega); omega) (kd_ent ((hT m (by omega)).1) ((hT m (by omega)).2)) (fref_entI ((hT m (by omega)).1) (by decide)) ?_
  refine w_aload_n d_b_makeRoom_15 rfl ?_
  refine w_getIV (v := (nI m)) d_b_makeRoom_16 FL_b_18 (by decide) (rfl) (rfl) (by rw [put_ne (by have := hT m (by omega); omega)]; exact hm) ?_
  show Wp _ 19 _ _ _ _
  refine w_istore_n d_b_makeRoom_19 (Nat.le_of_ble_eq_true rfl) ?_
  exact hk0 m _ (Nat.le_refl _) rfl (fun i => by rw [if_neg (by omega)]; rfl) (fun i h1 h2 => absurd h2 (by omega))
set_option maxRecDepth 100000 in
set_option maxHeartbeats 4000000 in
theorem c_b_drop (S : St) (p m : Nat) (hm : S.1 5 1 = nI m) (hm20 : m ≤ 20) (hpm : p < m) (hT : ∀ i, i < 20 → 124 ≤ S.2 i ∧ S.2 i < 144) : Ev M_b_drop [.ref 5, .int (nI p)] S (fun v9 S' => v9 = none ∧ S'.1 = (put S 5 1 (nI (m - 1))).1 ∧ ∀ i, S'.2 i = if p ≤ i ∧ i < m - 1 then S.2 (i + 1) else if i = m - 1 then S.2 p else S.2 i) := by
  refine Ev.of MF_b_drop (all_cat rfl) (Nat.le_of_ble_eq_true rfl) ?_
  show Wp M_b_drop 0 [.ref 5, .int (nI p), .null, .null] [] _ _
  have hk0 : ∀ k, k ≤ m - 1 → ∀ (S1 : St), p ≤ k → S1.1 = (put S 5 1 (nI (m - 1))).1 → (∀ i, S1.2 i = if p ≤ i ∧ i < k then S.2 (i + 1) else S.2 i) → Wp M_b_drop 19 [.ref 5, .int (nI p), .ref ((S.2 p)), .int (nI k)] [] S1 (fun v9 S' => v9 = none ∧ S'.1 = (put S 5 1 (nI (m - 1))).1 ∧ ∀ i, S'.2 i = if p ≤ i ∧ i < m - 1 then S.2 (i + 1) else if i = m - 1 then S.2 p else S.2 i) := by
    refine loopUp (m - 1) (fun k hk9 hn => ?_)
    intro S1 hpk h1 h2
    refine w_iload_n d_b_drop_19 rfl ?_
    refine w_aload_n d_b_drop_20 rfl ?_
    refine w_getIV (v := (nI (m - 1))) d_b_drop_21 FL_b_18 (by decide) (rfl) (rfl) (by rw [h1]; exact put_at) ?_
    refine w_icmp_geN 47 d_b_drop_24 (by decide) (by omega) (by omega) (fun h24 => ?_) (fun h24 => ?_)
    · refine w_aload_n d_b_drop_47 rfl ?_
      refine w_getR d_b_drop_48 FL_b_11 (by decide) (rfl) (rfl) ?_
      refine w_aload_n d_b_drop_51 rfl ?_
      refine w_getIV (v := (nI (m - 1))) d_b_drop_52 FL_b_18 (by decide) (rfl) (rfl) (by rw [h1]; exact put_at) ?_
      refine w_aload_n d_b_drop_55 rfl ?_
      refine w_eastNP d_b_drop_56 (by omega) ((hT p (by omega)).1) ((hT p (by omega)).2) ?_
      refine w_ret (st := []) rfl d_b_drop_57 ?_
      obtain rfl : k = m - 1 := by omega
      refine ⟨rfl, h1, ?_⟩
      intro i
      show upT S1.2 (m - 1) _ i = _
      unfold upT
      by_cases hi : i = m - 1
      · rw [if_pos hi, if_neg (by omega), if_pos hi]
      · rw [if_neg hi, if_neg hi, h2 i]
    · refine w_aload_n d_b_drop_27 rfl ?_
      refine w_getR d_b_drop_28 FL_b_11 (by decide) (rfl) (rfl) ?_
      refine w_iload_n d_b_drop_31 rfl ?_
      refine w_aload_n d_b_drop_32 rfl ?_
      refine w_getR d_b_drop_33 FL_b_11 (by decide) (rfl) (rfl) ?_
      refine w_iload_n d_b_drop_36 rfl ?_
      refine w_iconst (v := nI 1) d_b_drop_37 (by decide +kernel) ?_
      refine w_iaddN d_b_drop_38 ?_
      refine w_ealdNV (b := ((S.2 (k + 1)))) d_b_drop_39 (by omega) (by rw [h2, if_neg (by omega)]) ?_
      refine w_eastNP d_b_drop_40 (by omega) ((hT (k + 1) (by omega)).1) ((hT (k + 1) (by omega)).2) ?_
      refine w_iincN d_b_drop_41 rfl ?_
      show Wp _ 44 _ _ _ _
      refine w_goto 19 d_b_drop_44 (by decide) ?_
      refine hn h24 _ (by omega) h1 ?_
      intro i
      show upT S1.2 k _ i = _
      unfold upT
      by_cases hi : i = k
      · rw [if_pos hi, if_pos (by omega), hi]
      · rw [if_neg hi, h2 i]
        by_cases hi2 : p ≤ i ∧ i < k
        · rw [if_pos hi2, if_pos (by omega)]
        · rw [if_neg hi2, if_neg (by omega)]
  refine w_aload_n d_b_drop_0 rfl ?_
  refine w_getR d_b_drop_1 FL_b_11 (by decide) (rfl) (rfl) ?_
  refine w_iload_n d_b_drop_4 rfl ?_
  refine w_ealdN d_b_drop_5 (by omega) ?_
  refine w_astore_n d_b_drop_6 (Nat.le_of_ble_eq_true rfl) ?_
  refine w_aload_n d_b_drop_7 rfl ?_
  refine w_dup d_b_drop_8 rfl ?_
  refine w_getIV (v := (nI m)) d_b_drop_9 FL_b_18 (by decide) (rfl) (rfl) (hm) ?_
  refine w_iconst (v := nI 1) d_b_drop_12 (by decide +kernel) ?_
  refine w_isubN d_b_drop_13 (by omega) ?_
  refine w_putIP d_b_drop_14 FL_b_18 FW_5_1 (by decide) (rfl) (rfl) ?_
  show Wp _ 17 _ _ _ _
  refine w_iload_n d_b_drop_17 rfl ?_
  refine w_istore_n d_b_drop_18 (Nat.le_of_ble_eq_true rfl) ?_
  exact hk0 p (by omega) _ (Nat.le_refl _) rfl (fun i => by rw [if_neg (by omega)]; rfl)
end
section
/-! Clustering, as numbers: items x i k (n of them, w wide), centres C c k (m of them). -/
def farI (d : Nat → Int32) : Nat → Nat × Int32
  | 0 => (0, -1)
  | i + 1 => if (farI d i).2 < d i then (i, d i) else farI d i
theorem farI_congr {d e : Nat → Int32} : ∀ {n : Nat}, (∀ i, i < n → d i = e i) → farI d n = farI e n
  | 0, _ => rfl
  | n + 1, h => by
    show (if (farI d n).2 < d n then (n, d n) else farI d n) = (if (farI e n).2 < e n then (n, e n) else farI e n)
    rw [farI_congr (fun i hi => h i (by omega)), h n (by omega)]
theorem farI_lt {d : Nat → Int32} : ∀ {n : Nat}, 0 < n → (farI d n).1 < n
  | 0, h => absurd h (by omega)
  | n + 1, _ => by
    show (if (farI d n).2 < d n then (n, d n) else farI d n).1 < n + 1
    split
    · exact Nat.lt_succ_self n
    · cases n with
      | zero => exact Nat.one_pos
      | succ n => exact Nat.lt_trans (farI_lt (Nat.succ_pos n)) (Nat.lt_succ_self _)
/-- the nearest of the first m centres -/
def nrC (C x : Nat → Nat → Int32) (w m i : Nat) : Nat := near (fun c => dst (C c) (x i) w) m
theorem nrC_lt {C x : Nat → Nat → Int32} {w m i : Nat} (h : 0 < m) : nrC C x w m i < m := near_lt _ _ h
theorem nrC_congr {C D x y : Nat → Nat → Int32} {w m i : Nat} (hC : ∀ c, c < m → ∀ k, k < w → C c k = D c k) (hx : ∀ k, k < w → x i k = y i k) : nrC C x w m i = nrC D y w m i := near_congr (fun c hc => dst_congr (hC c hc) hx)
/-- the distance of an item to the nearest of the first m centres -/
def ndC (C x : Nat → Nat → Int32) (w m i : Nat) : Int32 := dst (C (nrC C x w m i)) (x i) w
theorem ndC_congr {C D x y : Nat → Nat → Int32} {w m i : Nat} (h0 : 0 < m) (hC : ∀ c, c < m → ∀ k, k < w → C c k = D c k) (hx : ∀ k, k < w → x i k = y i k) : ndC C x w m i = ndC D y w m i := by
  unfold ndC
  rw [nrC_congr hC hx]
  exact dst_congr (hC _ (nrC_lt h0)) hx
/-- the centres that are chosen first -/
def chC (x : Nat → Nat → Int32) (n w : Nat) : Nat → Nat → Nat → Int32
  | 0 => fun _ _ => 0
  | m + 1 => fun c k => if c = m then x (if m = 0 then 0 else (farI (ndC (chC x n w m) x w m) n).1) k else chC x n w m c k
theorem chC_congr {x y : Nat → Nat → Int32} {n w : Nat} (hn : 0 < n) (h : ∀ i, i < n → ∀ k, k < w → x i k = y i k) : ∀ (m c k : Nat), k < w → chC x n w m c k = chC y n w m c k
  | 0, _, _, _ => rfl
  | m + 1, c, k, hk => by
    show (if c = m then x (if m = 0 then 0 else (farI (ndC (chC x n w m) x w m) n).1) k else chC x n w m c k) = (if c = m then y (if m = 0 then 0 else (farI (ndC (chC y n w m) y w m) n).1) k else chC y n w m c k)
    by_cases hm : m = 0
    · rw [if_pos hm, if_pos hm, h 0 hn k hk, chC_congr hn h m c k hk]
    · rw [if_neg hm, if_neg hm, farI_congr (fun i hi => ndC_congr (by omega) (fun c _ k hk => chC_congr hn h m c k hk) (h i hi)), h _ (farI_lt hn) k hk, chC_congr hn h m c k hk]
def memC (f : Nat → Nat) (c : Nat) : Nat → Nat
  | 0 => 0
  | i + 1 => memC f c i + if f i = c then 1 else 0
theorem memC_le (f : Nat → Nat) (c : Nat) : ∀ n, memC f c n ≤ n
  | 0 => Nat.le_refl 0
  | n + 1 => by
    have := memC_le f c n
    show memC f c n + (if f n = c then 1 else 0) ≤ n + 1
    split <;> omega
theorem memC_congr {f g : Nat → Nat} {c : Nat} : ∀ {n : Nat}, (∀ i, i < n → f i = g i) → memC f c n = memC g c n
  | 0, _ => rfl
  | n + 1, h => by
    show memC f c n + (if f n = c then 1 else 0) = memC g c n + (if g n = c then 1 else 0)
    rw [memC_congr (fun i hi => h i (by omega)), h n (by omega)]
def sumC (f : Nat → Nat) (x : Nat → Nat → Int32) (c k : Nat) : Nat → Int32
  | 0 => 0
  | i + 1 => if f i = c then sumC f x c k i + x i k else sumC f x c k i
theorem sumC_congr {f g : Nat → Nat} {x y : Nat → Nat → Int32} {c k : Nat} : ∀ {n : Nat}, (∀ i, i < n → f i = g i) → (∀ i, i < n → x i k = y i k) → sumC f x c k n = sumC g y c k n
  | 0, _, _ => rfl
  | n + 1, h, hx => by
    show (if f n = c then sumC f x c k n + x n k else sumC f x c k n) = (if g n = c then sumC g y c k n + y n k else sumC g y c k n)
    rw [sumC_congr (fun i hi => h i (by omega)) (fun i hi => hx i (by omega)), h n (by omega), hx n (by omega)]
/-- the means of the members, where there are any -/
def mnC (f : Nat → Nat) (x C : Nat → Nat → Int32) (n c k : Nat) : Int32 := if 0 < memC f c n then fdv (sumC f x c k n) (nI (memC f c n)) else C c k
/-- the first greatest share -/
def gst (s : Nat → Nat) : Nat → Nat
  | 0 => 0
  | n + 1 => if s (gst s n) < s n then n else gst s n
theorem gst_lt (s : Nat → Nat) : ∀ n, 0 < n → gst s n < n
  | 0, h => absurd h (by omega)
  | 1, _ => by show (if s 0 < s 0 then 0 else 0) < 1; split <;> decide
  | n + 2, _ => by
    have := gst_lt s (n + 1) (by omega)
    show (if s (gst s (n + 1)) < s (n + 1) then n + 1 else gst s (n + 1)) < n + 2
    split <;> omega
theorem gst_1 (s : Nat → Nat) : gst s 1 = 0 := by show (if s 0 < s 0 then 0 else 0) = 0; split <;> rfl
theorem gst_congr {s t : Nat → Nat} : ∀ {n : Nat}, (∀ c, c < n → s c = t c) → gst s n = gst t n
  | 0, _ => rfl
  | 1, _ => by rw [gst_1, gst_1]
  | n + 2, h => by
    have ih := gst_congr (n := n + 1) (fun c hc => h c (by omega))
    have hl := gst_lt t (n + 1) (by omega)
    show (if s (gst s (n + 1)) < s (n + 1) then n + 1 else gst s (n + 1)) = (if t (gst t (n + 1)) < t (n + 1) then n + 1 else gst t (n + 1))
    rw [ih, h (n + 1) (by omega), h _ (by omega)]
/-- an empty centre e is split off the centre b -/
def spl (q : (Nat → Nat → Int32) × (Nat → Nat)) (e b : Nat) : (Nat → Nat → Int32) × (Nat → Nat) :=
  (fun c k => if c = e then q.1 b k + (if k = 0 then 1 else 0) else q.1 c k, fun c => if c = e then q.2 b / 2 else if c = b then q.2 b - q.2 b / 2 else q.2 c)
/-- the centres without members below e are filled -/
def fil (C : Nat → Nat → Int32) (mem : Nat → Nat) (m : Nat) : Nat → (Nat → Nat → Int32) × (Nat → Nat)
  | 0 => (C, mem)
  | e + 1 => if mem e = 0 then spl (fil C mem m e) e (gst (fil C mem m e).2 m) else fil C mem m e
theorem fil_le {C : Nat → Nat → Int32} {mem : Nat → Nat} {m n : Nat} (h : ∀ c, mem c ≤ n) : ∀ e c, (fil C mem m e).2 c ≤ n
  | 0, c => h c
  | e + 1, c => by
    have ih := fil_le (C := C) (m := m) h e
    show (if mem e = 0 then spl (fil C mem m e) e (gst (fil C mem m e).2 m) else fil C mem m e).2 c ≤ n
    split
    · show (if c = e then (fil C mem m e).2 (gst (fil C mem m e).2 m) / 2 else if c = gst (fil C mem m e).2 m then (fil C mem m e).2 (gst (fil C mem m e).2 m) - (fil C mem m e).2 (gst (fil C mem m e).2 m) / 2 else (fil C mem m e).2 c) ≤ n
      have h1 := ih (gst (fil C mem m e).2 m)
      have h2 := ih c
      split
      · omega
      · split <;> omega
    · exact ih c
theorem fil_0 {C : Nat → Nat → Int32} {mem : Nat → Nat} {m : Nat} : ∀ e c, e ≤ c → mem c = 0 → (fil C mem m e).2 c = 0
  | 0, c, _, h => h
  | e + 1, c, hc, h => by
    have ih := fil_0 (C := C) (m := m) e c (by omega) h
    show (if mem e = 0 then spl (fil C mem m e) e (gst (fil C mem m e).2 m) else fil C mem m e).2 c = 0
    split
    · show (if c = e then _ else if c = gst (fil C mem m e).2 m then (fil C mem m e).2 (gst (fil C mem m e).2 m) - (fil C mem m e).2 (gst (fil C mem m e).2 m) / 2 else (fil C mem m e).2 c) = 0
      rw [if_neg (by omega)]
      split
      · rename_i hb
        rw [← hb, ih]
      · exact ih
    · exact ih
theorem fil_congr {C D : Nat → Nat → Int32} {mem nem : Nat → Nat} {m w : Nat} (h0 : 0 < m) (hC : ∀ c, c < m → ∀ k, k < w → C c k = D c k) (hm : ∀ c, c < m → mem c = nem c) : ∀ e, e ≤ m → (∀ c, c < m → ∀ k, k < w → (fil C mem m e).1 c k = (fil D nem m e).1 c k) ∧ ∀ c, c < m → (fil C mem m e).2 c = (fil D nem m e).2 c
  | 0, _ => ⟨hC, hm⟩
  | e + 1, he => by
    obtain ⟨i1, i2⟩ := fil_congr h0 hC hm e (by omega)
    have hg := gst_congr i2
    have hgl := gst_lt (fil D nem m e).2 m h0
    have e1 : fil C mem m (e + 1) = if mem e = 0 then spl (fil C mem m e) e (gst (fil C mem m e).2 m) else fil C mem m e := rfl
    have e2 : fil D nem m (e + 1) = if nem e = 0 then spl (fil D nem m e) e (gst (fil D nem m e).2 m) else fil D nem m e := rfl
    rw [e1, e2, hm e (by omega), hg]
    by_cases h : nem e = 0
    · rw [if_pos h, if_pos h]
      refine ⟨fun c hc k hk => ?_, fun c hc => ?_⟩
      · show (if c = e then (fil C mem m e).1 _ k + _ else (fil C mem m e).1 c k) = (if c = e then (fil D nem m e).1 _ k + _ else (fil D nem m e).1 c k)
        rw [i1 _ hgl k hk, i1 c hc k hk]
      · show (if c = e then (fil C mem m e).2 _ / 2 else if c = _ then (fil C mem m e).2 _ - (fil C mem m e).2 _ / 2 else (fil C mem m e).2 c) = (if c = e then (fil D nem m e).2 _ / 2 else if c = _ then (fil D nem m e).2 _ - (fil D nem m e).2 _ / 2 else (fil D nem m e).2 c)
        rw [i2 _ hgl, i2 c hc]
    · rw [if_neg h, if_neg h]
      exact ⟨i1, i2⟩
/-- one round -/
def rnd (x : Nat → Nat → Int32) (n w m : Nat) (C : Nat → Nat → Int32) : Nat → Nat → Int32 := (fil (mnC (nrC C x w m) x C n) (fun c => memC (nrC C x w m) c n) m m).1
theorem rnd_congr {x y C D : Nat → Nat → Int32} {n w m : Nat} (h0 : 0 < m) (hx : ∀ i, i < n → ∀ k, k < w → x i k = y i k) (hC : ∀ c, c < m → ∀ k, k < w → C c k = D c k) : ∀ c, c < m → ∀ k, k < w → rnd x n w m C c k = rnd y n w m D c k := by
  have hf : ∀ i, i < n → nrC C x w m i = nrC D y w m i := fun i hi => nrC_congr hC (hx i hi)
  refine (fil_congr h0 (fun c hc k hk => ?_) (fun c _ => memC_congr hf) m (Nat.le_refl m)).1
  unfold mnC
  rw [memC_congr hf, sumC_congr hf (fun i hi => hx i hi k hk), hC c hc k hk]
def clu (x : Nat → Nat → Int32) (n w m : Nat) : Nat → Nat → Nat → Int32
  | 0 => chC x n w m
  | r + 1 => rnd x n w m (clu x n w m r)
theorem clu_congr {x y : Nat → Nat → Int32} {n w m : Nat} (hn : 0 < n) (h0 : 0 < m) (hx : ∀ i, i < n → ∀ k, k < w → x i k = y i k) : ∀ (r c : Nat), c < m → ∀ k, k < w → clu x n w m r c k = clu y n w m r c k
  | 0, c, _, k, hk => chC_congr hn hx m c k hk
  | r + 1, c, hc, k, hk => rnd_congr h0 hx (fun c hc k hk => clu_congr hn h0 hx r c hc k hk) c hc k hk
/-- what the clustering may write besides its fields -/
def FrC (S S' : St) : Prop := S'.2 = S.2 ∧ ∀ a i, ¬ (a = 14 ∨ a = 15 ∨ (96 ≤ a ∧ a < 104)) → S'.1 a i = S.1 a i
theorem FrC.rf (S : St) : FrC S S := ⟨rfl, fun _ _ _ => rfl⟩
theorem FrC.tr {S S1 S2 : St} (h : FrC S S1) (h2 : FrC S1 S2) : FrC S S2 := ⟨h2.1.trans h.1, fun a i q => (h2.2 a i q).trans (h.2 a i q)⟩
theorem FrC.put {S S1 : St} {c i : Nat} {v : Int32} (h : FrC S S1) (hc : c = 14 ∨ c = 15 ∨ (96 ≤ c ∧ c < 104)) : FrC S (put S1 c i v) := ⟨h.1, fun a j q => (put_ne (c := c) (i := i) (c' := a) (i' := j) (fun z => q (by rw [z.1]; exact hc))).trans (h.2 a j q)⟩
theorem FrC.row {S S1 : St} {c n : Nat} {f : Nat → Int32} (h : FrC S S1) (hc : c = 14 ∨ c = 15 ∨ (96 ≤ c ∧ c < 104)) : FrC S (setRow S1 c f n) := ⟨h.1, fun a j q => (setRow_ne (c := c) (d := a) (fun z => q (by rw [z]; exact hc))).trans (h.2 a j q)⟩
/-- the clustering's fields and its sizes -/
def CF (S : St) (n fr w m : Nat) : Prop := S.1 3 5 = nI n ∧ S.1 3 6 = nI fr ∧ S.1 3 7 = nI w ∧ S.1 3 8 = nI m ∧ 0 < n ∧ n ≤ 24 ∧ fr + w ≤ 4 ∧ 0 < w ∧ 0 < m ∧ m ≤ 4
theorem CF.keep {S S1 : St} {n fr w m : Nat} (h : CF S n fr w m) (h1 : FrC S S1) : CF S1 n fr w m := by
  unfold CF
  rw [h1.2 3 5 (by omega), h1.2 3 6 (by omega), h1.2 3 7 (by omega), h1.2 3 8 (by omega)]
  exact h
def itm (S : St) (fr : Nat) : Nat → Nat → Int32 := fun i k => S.1 (72 + i) (fr + k)
def cen (S : St) : Nat → Nat → Int32 := fun c k => S.1 (96 + c) k
theorem itm_keep {S S1 : St} {fr : Nat} (h1 : FrC S S1) {i : Nat} (hi : i < 24) (k : Nat) : itm S1 fr i k = itm S fr i k := h1.2 _ _ (by omega)
set_option maxRecDepth 100000 in
set_option maxHeartbeats 4000000 in
theorem c_c_beginCentre (S : St) (n fr w m : Nat) (hF : CF S n fr w m) (c i : Nat) (hc : c < 4) (hi : i < 24) : Ev M_c_beginCentre [.ref 3, .int (nI c), .int (nI i)] S (fun v9 S' => v9 = none ∧ S' = setRow S (96 + c) (itm S fr i) w) := by
  refine Ev.of MF_c_beginCentre (all_cat rfl) (Nat.le_of_ble_eq_true rfl) ?_
  show Wp M_c_beginCentre 0 [.ref 3, .int (nI c), .int (nI i), .null] [] _ _
  have hF0 := hF
  obtain ⟨hn, hfr, hw, hm, hn0, hn24, hfw, hw0, hm0, hm4⟩ := hF
  have hk0 : ∀ k, k ≤ w → ∀ (S1 : St), S1 = setRow S (96 + c) (itm S fr i) k → Wp M_c_beginCentre 2 [.ref 3, .int (nI c), .int (nI i), .int (nI k)] [] S1 (fun v9 S' => v9 = none ∧ S' = setRow S (96 + c) (itm S fr i) w) := by
    refine loopUp (w) (fun k hk9 hn9 => ?_)
    intro S1 hS
    have e3 : ∀ j, S1.1 3 j = S.1 3 j := fun j => by rw [hS, setRow_ne (by omega)]
    have ei : S1.1 (72 + i) (fr + k) = itm S fr i k := by rw [hS, setRow_ne (by omega)]; rfl
    refine w_iload_n d_c_beginCentre_2 rfl ?_
    refine w_aload_n d_c_beginCentre_3 rfl ?_
    refine w_getIV (v := (nI w)) d_c_beginCentre_4 FL_c_33 (by decide) (rfl) (rfl) ((e3 7).trans hw) ?_
    refine w_icmp_geN 37 d_c_beginCentre_7 (by decide) (by omega) (by omega) (fun h7 => ?_) (fun h7 => ?_)
    · refine w_ret (st := []) rfl d_c_beginCentre_37 ?_
      obtain rfl : k = w := by omega
      exact ⟨rfl, hS⟩
    · refine w_aload_n d_c_beginCentre_10 rfl ?_
      refine w_getR d_c_beginCentre_11 FL_c_16 (by decide) (rfl) (rfl) ?_
      refine w_iload_n d_c_beginCentre_14 rfl ?_
      refine w_aaldN d_c_beginCentre_15 (by decide) (rfl) (show c < 4 from (by omega)) ?_
      show Wp _ _ _ (.ref (96 + c) :: _) _ _
      refine w_iload_n d_c_beginCentre_16 rfl ?_
      refine w_aload_n d_c_beginCentre_17 rfl ?_
      refine w_getR d_c_beginCentre_18 FL_c_11 (by decide) (rfl) (rfl) ?_
      refine w_iload_n d_c_beginCentre_21 rfl ?_
      refine w_aaldN d_c_beginCentre_22 (by decide) (rfl) (show i < 24 from (by omega)) ?_
      show Wp _ _ _ (.ref (72 + i) :: _) _ _
      refine w_aload_n d_c_beginCentre_23 rfl ?_
      refine w_getIV (v := (nI fr)) d_c_beginCentre_24 FL_c_29 (by decide) (rfl) (rfl) ((e3 6).trans hfr) ?_
      show Wp _ 27 _ _ _ _
      refine w_iload_n d_c_beginCentre_27 rfl ?_
      refine w_iaddN d_c_beginCentre_28 ?_
      refine w_ialdNV (v := ((itm S fr i k))) d_c_beginCentre_29 (by omega) (kd_row72 (by omega)) (show fr + k < ln (72 + i) by rw [ln_row72 (by omega)]; omega) (ei) ?_
      refine w_iastNP d_c_beginCentre_30 (by omega) (kd_row96 (by omega)) (show k < ln (96 + c) by rw [ln_row96 (by omega)]; omega) ?_
      refine w_iincN d_c_beginCentre_31 rfl ?_
      refine w_goto 2 d_c_beginCentre_34 (by decide) ?_
      refine hn9 h7 _ ?_
      rw [hS]
      exact setRow_s rfl
  refine w_iconst (v := nI 0) d_c_beginCentre_0 (by decide +kernel) ?_
  refine w_istore_n d_c_beginCentre_1 (Nat.le_of_ble_eq_true rfl) ?_
  exact hk0 0 (by omega) _ (setRow_0 _ _ _).symm
theorem c_nr (S : St) (fr w m i : Nat) (hfw : fr + w ≤ 4) (hm0 : 0 < m) (hm4 : m ≤ 4) (hi : i < 24) : Ev M_q_nearestRow [.ref 12, .int (nI 0), .int (nI m), .ref (72 + i), .int (nI fr), .int (nI w)] S (fun v9 S' => v9 = some (.int (nI (nrC (cen S) (itm S fr) w m i))) ∧ S' = S) := by
  have h := c_q_nearestRow S 12 0 m (72 + i) fr w (by decide) (by decide) (show 0 + m ≤ 4 by omega) hm0 (by omega) (fun j hj => ⟨show 96 + (0 + j) < 204 by omega, by show kd (96 + (0 + j)) = 0; exact kd_row96 (by omega), by show w ≤ ln (96 + (0 + j)); rw [ln_row96 (by omega)]; omega⟩) (by omega) (kd_row72 hi) (by rw [ln_row72 hi]; exact hfw) (by omega)
  simp only [Nat.zero_add] at h
  exact h
theorem c_ds (S : St) (fr w c i : Nat) (hfw : fr + w ≤ 4) (hc : c < 4) (hi : i < 24) : Ev M_q_distance [.ref (96 + c), .ref (72 + i), .int (nI fr), .int (nI w)] S (fun v9 S' => v9 = some (.int (dst (cen S c) (itm S fr i) w)) ∧ S' = S) := c_q_distance S (96 + c) (72 + i) fr w (by omega) (kd_row96 hc) (by rw [ln_row96 hc]; omega) (by omega) (kd_row72 hi) (by rw [ln_row72 hi]; exact hfw) (by omega)
set_option maxRecDepth 100000 in
set_option maxHeartbeats 4000000 in
theorem c_c_farthestItem (S : St) (n fr w m : Nat) (hF : CF S n fr w m) (q : Nat) (hq0 : 0 < q) (hq4 : q ≤ 4) : Ev M_c_farthestItem [.ref 3, .int (nI q)] S (fun v9 S' => v9 = some (.int (nI (farI (ndC (cen S) (itm S fr) w q) n).1)) ∧ S' = S) := by
  refine Ev.of MF_c_farthestItem (all_cat rfl) (Nat.le_of_ble_eq_true rfl) ?_
  show Wp M_c_farthestItem 0 [.ref 3, .int (nI q), .null, .null, .null, .null, .null] [] _ _
  obtain ⟨hn, hfr, hw, hm, hn0, hn24, hfw, hw0, hm0, hm4⟩ := hF
  have hk0 : ∀ k, k ≤ n → ∀ (b : Nat) (v : Int32) (x5 : Value) (x6 : Value), (b, v) = farI (ndC (cen S) (itm S fr) w q) k → Wp M_c_farthestItem 7 [.ref 3, .int (nI q), .int (nI b), .int v, .int (nI k), x5, x6] [] S (fun v9 S' => v9 = some (.int (nI (farI (ndC (cen S) (itm S fr) w q) n).1)) ∧ S' = S) := by
    refine loopUp (n) (fun k hk9 hn9 => ?_)
    intro b v x5 x6 hb
    have hnq := nrC_lt (C := cen S) (x := itm S fr) (w := w) (i := k) hq0
    refine w_iload d_c_farthestItem_7 rfl ?_
    refine w_aload_n d_c_farthestItem_9 rfl ?_
    refine w_getIV (v := (nI n)) d_c_farthestItem_10 FL_c_51 (by decide) (rfl) (rfl) (hn) ?_
    refine w_icmp_geN 87 d_c_farthestItem_13 (by decide) (by omega) (by omega) (fun h13 => ?_) (fun h13 => ?_)
    · refine w_iload_n d_c_farthestItem_87 rfl ?_
      refine w_iret (st := []) rfl d_c_farthestItem_88 ?_
      obtain rfl : k = n := by omega
      exact ⟨by rw [← hb], rfl⟩
    · refine w_aload_n d_c_farthestItem_16 rfl ?_
      refine w_getR d_c_farthestItem_17 FL_c_16 (by decide) (rfl) (rfl) ?_
      refine w_iconst (v := nI 0) d_c_farthestItem_20 (by decide +kernel) ?_
      refine w_iload_n d_c_farthestItem_21 rfl ?_
      refine w_aload_n d_c_farthestItem_22 rfl ?_
      refine w_getR d_c_farthestItem_23 FL_c_11 (by decide) (rfl) (rfl) ?_
      refine w_iload d_c_farthestItem_26 rfl ?_
      refine w_aaldN d_c_farthestItem_28 (by decide) (rfl) (show k < 24 from (by omega)) ?_
      show Wp _ _ _ (.ref (72 + k) :: _) _ _
      refine w_aload_n d_c_farthestItem_29 rfl ?_
      refine w_getIV (v := (nI fr)) d_c_farthestItem_30 FL_c_29 (by decide) (rfl) (rfl) (hfr) ?_
      refine w_aload_n d_c_farthestItem_33 rfl ?_
      show Wp _ 34 _ _ _ _
      refine w_getIV (v := (nI w)) d_c_farthestItem_34 FL_c_33 (by decide) (rfl) (rfl) (hw) ?_
      refine w_callS6 (N := M_q_nearestRow) d_c_farthestItem_37 LK_c_71 MF_q_nearestRow MS_q_nearestRow NP_q_nearestRow (by decide) rfl (Nat.le_of_ble_eq_true rfl) ?_
      refine Ev.det (c_nr _ _ _ _ _ hfw hq0 hq4 (by omega)) ?_
      refine w_istore d_c_farthestItem_40 (Nat.le_of_ble_eq_true rfl) ?_
      refine w_aload_n d_c_farthestItem_42 rfl ?_
      refine w_getR d_c_farthestItem_43 FL_c_16 (by decide) (rfl) (rfl) ?_
      refine w_iload d_c_farthestItem_46 rfl ?_
      refine w_aaldN d_c_farthestItem_48 (by decide) (rfl) (show nrC (cen S) (itm S fr) w q k < 4 from (by omega)) ?_
      show Wp _ _ _ (.ref (96 + (nrC (cen S) (itm S fr) w q k)) :: _) _ _
      refine w_aload_n d_c_farthestItem_49 rfl ?_
      refine w_getR d_c_farthestItem_50 FL_c_11 (by decide) (rfl) (rfl) ?_
      refine w_iload d_c_farthestItem_53 rfl ?_
      refine w_aaldN d_c_farthestItem_55 (by decide) (rfl) (show k < 24 from (by omega)) ?_
      show Wp _ _ _ (.ref (72 + k) :: _) _ _
      refine w_aload_n d_c_farthestItem_56 rfl ?_
      show Wp _ 57 _ _ _ _
      refine w_getIV (v := (nI fr)) d_c_farthestItem_57 FL_c_29 (by decide) (rfl) (rfl) (hfr) ?_
      refine w_aload_n d_c_farthestItem_60 rfl ?_
      refine w_getIV (v := (nI w)) d_c_farthestItem_61 FL_c_33 (by decide) (rfl) (rfl) (hw) ?_
      refine w_callS4 (N := M_q_distance) d_c_farthestItem_64 LK_c_75 MF_q_distance MS_q_distance NP_q_distance (by decide) rfl (Nat.le_of_ble_eq_true rfl) ?_
      refine Ev.det (c_ds _ _ _ _ _ hfw (by omega) (by omega)) ?_
      refine w_istore d_c_farthestItem_67 (Nat.le_of_ble_eq_true rfl) ?_
      refine w_iload d_c_farthestItem_69 rfl ?_
      refine w_iload_n d_c_farthestItem_71 rfl ?_
      refine w_icmp_le 81 d_c_farthestItem_72 (by decide) (fun h72 => ?_) (fun h72 => ?_)
      · refine w_iincN d_c_farthestItem_81 rfl ?_
        refine w_goto 7 d_c_farthestItem_84 (by decide) ?_
        exact hn9 h13 _ _ _ _ (by show _ = (if (farI (ndC (cen S) (itm S fr) w q) k).2 < (ndC (cen S) (itm S fr) w q) k then (k, (ndC (cen S) (itm S fr) w q) k) else farI (ndC (cen S) (itm S fr) w q) k); rw [← hb]; exact (if_neg (Int32.not_lt.mpr h72)).symm)
      · refine w_iload d_c_farthestItem_75 rfl ?_
        refine w_istore_n d_c_farthestItem_77 (Nat.le_of_ble_eq_true rfl) ?_
        refine w_iload d_c_farthestItem_78 rfl ?_
        refine w_istore_n d_c_farthestItem_80 (Nat.le_of_ble_eq_true rfl) ?_
        refine w_iincN d_c_farthestItem_81 rfl ?_
        refine w_goto 7 d_c_farthestItem_84 (by decide) ?_
        exact hn9 h13 _ _ _ _ (by show _ = (if (farI (ndC (cen S) (itm S fr) w q) k).2 < (ndC (cen S) (itm S fr) w q) k then (k, (ndC (cen S) (itm S fr) w q) k) else farI (ndC (cen S) (itm S fr) w q) k); rw [← hb]; exact (if_pos (Int32.not_le.mp h72)).symm)
  refine w_iconst (v := nI 0) d_c_farthestItem_0 (by decide +kernel) ?_
  refine w_istore_n d_c_farthestItem_1 (Nat.le_of_ble_eq_true rfl) ?_
  refine w_iconst (v := -1) d_c_farthestItem_2 (by decide +kernel) ?_
  refine w_istore_n d_c_farthestItem_3 (Nat.le_of_ble_eq_true rfl) ?_
  refine w_iconst (v := nI 0) d_c_farthestItem_4 (by decide +kernel) ?_
  refine w_istore d_c_farthestItem_5 (Nat.le_of_ble_eq_true rfl) ?_
  exact hk0 0 (by omega) 0 _ _ _ rfl
set_option maxRecDepth 100000 in
set_option maxHeartbeats 4000000 in
theorem c_c_chooseCentres (S : St) (n fr w m : Nat) (hF : CF S n fr w m) : Ev M_c_chooseCentres [.ref 3] S (fun v9 S' => v9 = none ∧ FrC S S' ∧ ∀ c, c < m → ∀ k, k < w → S'.1 (96 + c) k = chC (itm S fr) n w m c k) := by
  refine Ev.of MF_c_chooseCentres (all_cat rfl) (Nat.le_of_ble_eq_true rfl) ?_
  show Wp M_c_chooseCentres 0 [.ref 3, .null] [] _ _
  have hF0 := hF
  obtain ⟨hn, hfr, hw, hm, hn0, hn24, hfw, hw0, hm0, hm4⟩ := hF
  have hk0 : ∀ j, j ≤ m → ∀ (S1 : St), 1 ≤ j → FrC S S1 → (∀ c, c < j → ∀ k, k < w → S1.1 (96 + c) k = (chC (itm S fr) n w j) c k) → Wp M_c_chooseCentres 8 [.ref 3, .int (nI j)] [] S1 (fun v9 S' => v9 = none ∧ FrC S S' ∧ ∀ c, c < m → ∀ k, k < w → S'.1 (96 + c) k = chC (itm S fr) n w m c k) := by
    refine loopUp (m) (fun j hk9 hn9 => ?_)
    intro S1 hj1 h1 h2
    have hF1 := hF0.keep h1
    have hfar : farI (ndC (cen S1) (itm S1 fr) w j) n = farI (ndC (chC (itm S fr) n w j) (itm S fr) w j) n := farI_congr (fun i hi => ndC_congr (by omega) (fun c hc k hk => h2 c hc k hk) (fun k hk => itm_keep h1 (by omega) k))
    have hfl := farI_lt (d := ndC (cen S1) (itm S1 fr) w j) hn0
    refine w_iload_n d_c_chooseCentres_8 rfl ?_
    refine w_aload_n d_c_chooseCentres_9 rfl ?_
    refine w_getIV (v := (nI m)) d_c_chooseCentres_10 FL_c_36 (by decide) (rfl) (rfl) (hF1.2.2.2.1) ?_
    refine w_icmp_geN 32 d_c_chooseCentres_13 (by decide) (by omega) (by omega) (fun h13 => ?_) (fun h13 => ?_)
    · refine w_ret (st := []) rfl d_c_chooseCentres_32 ?_
      obtain rfl : j = m := by omega
      exact ⟨rfl, h1, h2⟩
    · refine w_aload_n d_c_chooseCentres_16 rfl ?_
      refine w_iload_n d_c_chooseCentres_17 rfl ?_
      refine w_aload_n d_c_chooseCentres_18 rfl ?_
      refine w_iload_n d_c_chooseCentres_19 rfl ?_
      refine w_callV1 (N := M_c_farthestItem) d_c_chooseCentres_20 LK_c_67 MF_c_farthestItem MV_c_farthestItem NP_c_farthestItem (by decide) (by decide) (rfl) rfl rfl (Nat.le_of_ble_eq_true rfl) ?_
      refine Ev.det (c_c_farthestItem S1 n fr w m hF1 _ (by omega) (by omega)) ?_
      refine w_callV2 (N := M_c_beginCentre) d_c_chooseCentres_23 LK_c_63 MF_c_beginCentre MV_c_beginCentre NP_c_beginCentre (by decide) (by decide) (rfl) rfl rfl (Nat.le_of_ble_eq_true rfl) ?_
      refine Ev.det (c_c_beginCentre S1 n fr w m hF1 _ _ (by omega) (by omega)) ?_
      refine w_iincN d_c_chooseCentres_26 rfl ?_
      refine w_goto 8 d_c_chooseCentres_29 (by decide) ?_
      refine hn9 h13 _ (by omega) (h1.row (by omega)) ?_
      intro c hc k hk
      show _ = (if c = j then itm S fr (if j = 0 then 0 else (farI (ndC (chC (itm S fr) n w j) (itm S fr) w j) n).1) k else (chC (itm S fr) n w j) c k)
      by_cases hcj : c = j
      · subst hcj
        rw [setRow_at hk, if_pos rfl, if_neg (by omega), itm_keep h1 (by omega), hfar]
      · rw [setRow_ne (by omega), if_neg hcj, h2 c (by omega) k hk]
  refine w_aload_n d_c_chooseCentres_0 rfl ?_
  refine w_iconst (v := nI 0) d_c_chooseCentres_1 (by decide +kernel) ?_
  refine w_iconst (v := nI 0) d_c_chooseCentres_2 (by decide +kernel) ?_
  refine w_callV2 (N := M_c_beginCentre) d_c_chooseCentres_3 LK_c_63 MF_c_beginCentre MV_c_beginCentre NP_c_beginCentre (by decide) (by decide) (rfl) rfl rfl (Nat.le_of_ble_eq_true rfl) ?_
  refine Ev.det (c_c_beginCentre S n fr w m hF0 _ _ (by decide) (by decide)) ?_
  refine w_iconst (v := nI 1) d_c_chooseCentres_6 (by decide +kernel) ?_
  refine w_istore_n d_c_chooseCentres_7 (Nat.le_of_ble_eq_true rfl) ?_
  refine hk0 1 (by omega) _ (Nat.le_refl 1) ((FrC.rf S).row (by omega)) ?_
  intro c hc k hk
  obtain rfl : c = 0 := by omega
  exact setRow_at hk
set_option maxRecDepth 100000 in
set_option maxHeartbeats 4000000 in
theorem c_c_greatestShare (S : St) (n fr w m : Nat) (hF : CF S n fr w m) (s : Nat → Nat) (hs : ∀ c, c < m → S.1 15 c = nI (s c) ∧ s c ≤ 24) : Ev M_c_greatestShare [.ref 3] S (fun v9 S' => v9 = some (.int (nI (gst s m))) ∧ S' = S) := by
  refine Ev.of MF_c_greatestShare (all_cat rfl) (Nat.le_of_ble_eq_true rfl) ?_
  show Wp M_c_greatestShare 0 [.ref 3, .null, .null] [] _ _
  obtain ⟨hn, hfr, hw, hm, hn0, hn24, hfw, hw0, hm0, hm4⟩ := hF
  have hk0 : ∀ j, j ≤ m → ∀ (b : Nat), 1 ≤ j → b = gst s j → Wp M_c_greatestShare 4 [.ref 3, .int (nI b), .int (nI j)] [] S (fun v9 S' => v9 = some (.int (nI (gst s m))) ∧ S' = S) := by
    refine loopUp (m) (fun j hk9 hn9 => ?_)
    intro b hj1 hb
    have hbl := gst_lt s j (by omega)
    refine w_iload_n d_c_greatestShare_4 rfl ?_
    refine w_aload_n d_c_greatestShare_5 rfl ?_
    refine w_getIV (v := (nI m)) d_c_greatestShare_6 FL_c_36 (by decide) (rfl) (rfl) (hm) ?_
    refine w_icmp_geN 35 d_c_greatestShare_9 (by decide) (by omega) (by omega) (fun h9 => ?_) (fun h9 => ?_)
    · refine w_iload_n d_c_greatestShare_35 rfl ?_
      refine w_iret (st := []) rfl d_c_greatestShare_36 ?_
      obtain rfl : j = m := by omega
      exact ⟨by rw [hb], rfl⟩
    · refine w_aload_n d_c_greatestShare_12 rfl ?_
      refine w_getR d_c_greatestShare_13 FL_c_26 (by decide) (rfl) (rfl) ?_
      refine w_iload_n d_c_greatestShare_16 rfl ?_
      refine w_ialdNV (v := (nI (s j))) d_c_greatestShare_17 (by decide) (rfl) (show j < 4 from (by omega)) ((hs j h9).1) ?_
      refine w_aload_n d_c_greatestShare_18 rfl ?_
      refine w_getR d_c_greatestShare_19 FL_c_26 (by decide) (rfl) (rfl) ?_
      refine w_iload_n d_c_greatestShare_22 rfl ?_
      refine w_ialdNV (v := (nI (s b))) d_c_greatestShare_23 (by decide) (rfl) (show b < 4 from (by omega)) ((hs b (by omega)).1) ?_
      have hs1 := (hs j h9).2
      have hs2 := (hs b (by omega)).2
      refine w_icmp_leN 29 d_c_greatestShare_24 (by decide) (by omega) (by omega) (fun h24 => ?_) (fun h24 => ?_)
      · refine w_iincN d_c_greatestShare_29 rfl ?_
        refine w_goto 4 d_c_greatestShare_32 (by decide) ?_
        exact hn9 h9 _ (by omega) (by show _ = (if s (gst s j) < s j then j else gst s j); rw [← hb, if_neg (by omega)])
      · refine w_iload_n d_c_greatestShare_27 rfl ?_
        refine w_istore_n d_c_greatestShare_28 (Nat.le_of_ble_eq_true rfl) ?_
        refine w_iincN d_c_greatestShare_29 rfl ?_
        refine w_goto 4 d_c_greatestShare_32 (by decide) ?_
        exact hn9 h9 _ (by omega) (by show _ = (if s (gst s j) < s j then j else gst s j); rw [← hb, if_pos (by omega)])
  refine w_iconst (v := nI 0) d_c_greatestShare_0 (by decide +kernel) ?_
  refine w_istore_n d_c_greatestShare_1 (Nat.le_of_ble_eq_true rfl) ?_
  refine w_iconst (v := nI 1) d_c_greatestShare_2 (by decide +kernel) ?_
  refine w_istore_n d_c_greatestShare_3 (Nat.le_of_ble_eq_true rfl) ?_
  exact hk0 1 (by omega) 0 (Nat.le_refl 1) (gst_1 s).symm
end
section
set_option maxRecDepth 100000 in
set_option maxHeartbeats 4000000 in
theorem c_c_countMembers (S : St) (n fr w m : Nat) (hF : CF S n fr w m) : Ev M_c_countMembers [.ref 3] S (fun v9 S' => v9 = none ∧ FrC S S' ∧ (∀ c, c < 4 → ∀ k, S'.1 (96 + c) k = S.1 (96 + c) k) ∧ ∀ c, c < m → S'.1 14 c = nI (memC (nrC (cen S) (itm S fr) w m) c n) ∧ ∀ k, k < w → S'.1 (100 + c) k = sumC (nrC (cen S) (itm S fr) w m) (itm S fr) c k n) := by
  refine Ev.of MF_c_countMembers (all_cat rfl) (Nat.le_of_ble_eq_true rfl) ?_
  show Wp M_c_countMembers 0 [.ref 3, .null, .null, .null] [] _ _
  have hF0 := hF
  obtain ⟨hn, hfr, hw, hm, hn0, hn24, hfw, hw0, hm0, hm4⟩ := hF
  have hk1 : ∀ i, i ≤ n → ∀ (S1 : St) (x2 : Value) (x3 : Value), FrC S S1 → (∀ c, c < 4 → ∀ k, S1.1 (96 + c) k = S.1 (96 + c) k) → (∀ c, c < m → S1.1 14 c = nI (memC (nrC (cen S) (itm S fr) w m) c i) ∧ ∀ k, k < w → S1.1 (100 + c) k = sumC (nrC (cen S) (itm S fr) w m) (itm S fr) c k i) → Wp M_c_countMembers 50 [.ref 3, .int (nI i), x2, x3] [] S1 (fun v9 S' => v9 = none ∧ FrC S S' ∧ (∀ c, c < 4 → ∀ k, S'.1 (96 + c) k = S.1 (96 + c) k) ∧ ∀ c, c < m → S'.1 14 c = nI (memC (nrC (cen S) (itm S fr) w m) c n) ∧ ∀ k, k < w → S'.1 (100 + c) k = sumC (nrC (cen S) (itm S fr) w m) (itm S fr) c k n) := by
    refine loopUp (n) (fun i hk9 hn9 => ?_)
    intro S1 x2 x3 h1 h2 h3
    have hF1 := hF0.keep h1
    obtain ⟨c0, hc0⟩ : ∃ c0, c0 = (nrC (cen S) (itm S fr) w m) i := ⟨_, rfl⟩
    have hc0m : c0 < m := by rw [hc0]; exact nrC_lt hm0
    refine w_iload_n d_c_countMembers_50 rfl ?_
    refine w_aload_n d_c_countMembers_51 rfl ?_
    refine w_getIV (v := (nI n)) d_c_countMembers_52 FL_c_51 (by decide) (rfl) (rfl) (hF1.1) ?_
    refine w_icmp_geN 141 d_c_countMembers_55 (by decide) (by omega) (by omega) (fun h55 => ?_) (fun h55 => ?_)
    · refine w_ret (st := []) rfl d_c_countMembers_141 ?_
      obtain rfl : i = n := by omega
      exact ⟨rfl, h1, h2, h3⟩
    · refine w_aload_n d_c_countMembers_58 rfl ?_
      refine w_getR d_c_countMembers_59 FL_c_16 (by decide) (rfl) (rfl) ?_
      refine w_iconst (v := nI 0) d_c_countMembers_62 (by decide +kernel) ?_
      refine w_aload_n d_c_countMembers_63 rfl ?_
      refine w_getIV (v := (nI m)) d_c_countMembers_64 FL_c_36 (by decide) (rfl) (rfl) (hF1.2.2.2.1) ?_
      refine w_aload_n d_c_countMembers_67 rfl ?_
      refine w_getR d_c_countMembers_68 FL_c_11 (by decide) (rfl) (rfl) ?_
      refine w_iload_n d_c_countMembers_71 rfl ?_
      refine w_aaldN d_c_countMembers_72 (by decide) (rfl) (show i < 24 from (by omega)) ?_
      show Wp _ _ _ (.ref (72 + i) :: _) _ _
      refine w_aload_n d_c_countMembers_73 rfl ?_
      refine w_getIV (v := (nI fr)) d_c_countMembers_74 FL_c_29 (by decide) (rfl) (rfl) (hF1.2.1) ?_
      show Wp _ 77 _ _ _ _
      refine w_aload_n d_c_countMembers_77 rfl ?_
      refine w_getIV (v := (nI w)) d_c_countMembers_78 FL_c_33 (by decide) (rfl) (rfl) (hF1.2.2.1) ?_
      refine w_callS6 (N := M_q_nearestRow) d_c_countMembers_81 LK_c_71 MF_q_nearestRow MS_q_nearestRow NP_q_nearestRow (by decide) rfl (Nat.le_of_ble_eq_true rfl) ?_
      refine Ev.det (c_nr _ _ _ _ _ hfw hm0 hm4 (by omega)) ?_
      have hnr : nrC (cen S1) (itm S1 fr) w m i = c0 := by rw [hc0]; exact nrC_congr (fun c hc k _ => h2 c (by omega) k) (fun k _ => itm_keep h1 (by omega) k)
      rw [hnr]
      refine w_istore_n d_c_countMembers_84 (Nat.le_of_ble_eq_true rfl) ?_
      refine w_aload_n d_c_countMembers_85 rfl ?_
      refine w_getR d_c_countMembers_86 FL_c_22 (by decide) (rfl) (rfl) ?_
      refine w_iload_n d_c_countMembers_89 rfl ?_
      refine w_dup2 d_c_countMembers_90 rfl rfl ?_
      refine w_ialdNV (v := (nI (memC (nrC (cen S) (itm S fr) w m) c0 i))) d_c_countMembers_91 (by decide) (rfl) (show c0 < 4 from (by omega)) ((h3 c0 hc0m).1) ?_
      refine w_iconst (v := nI 1) d_c_countMembers_92 (by decide +kernel) ?_
      refine w_iaddN d_c_countMembers_93 ?_
      refine w_iastNP d_c_countMembers_94 (by decide) (rfl) (show c0 < 4 from (by omega)) ?_
      show Wp _ 95 _ _ _ _
      refine w_iconst (v := nI 0) d_c_countMembers_95 (by decide +kernel) ?_
      refine w_istore_n d_c_countMembers_96 (Nat.le_of_ble_eq_true rfl) ?_
      have hin : ∀ k, k ≤ w → ∀ (S2 : St), FrC S S2 → (∀ c, c < 4 → ∀ k, S2.1 (96 + c) k = S.1 (96 + c) k) → (∀ c, c < m → S2.1 14 c = nI (memC (nrC (cen S) (itm S fr) w m) c (i + 1))) → (∀ c, c < m → ∀ j, j < w → S2.1 (100 + c) j = if c = c0 ∧ j < k then sumC (nrC (cen S) (itm S fr) w m) (itm S fr) c j (i + 1) else sumC (nrC (cen S) (itm S fr) w m) (itm S fr) c j i) → Wp M_c_countMembers 97 [.ref 3, .int (nI i), .int (nI c0), .int (nI k)] [] S2 (fun v9 S' => v9 = none ∧ FrC S S' ∧ (∀ c, c < 4 → ∀ k, S'.1 (96 + c) k = S.1 (96 + c) k) ∧ ∀ c, c < m → S'.1 14 c = nI (memC (nrC (cen S) (itm S fr) w m) c n) ∧ ∀ k, k < w → S'.1 (100 + c) k = sumC (nrC (cen S) (itm S fr) w m) (itm S fr) c k n) := by
        refine loopUp (w) (fun k hk8 hn8 => ?_)
        intro S2 g1 g2 g3 g4
        have hF2 := hF0.keep g1
        refine w_iload_n d_c_countMembers_97 rfl ?_
        refine w_aload_n d_c_countMembers_98 rfl ?_
        refine w_getIV (v := (nI w)) d_c_countMembers_99 FL_c_33 (by decide) (rfl) (rfl) (hF2.2.2.1) ?_
        refine w_icmp_geN 135 d_c_countMembers_102 (by decide) (by omega) (by omega) (fun h102 => ?_) (fun h102 => ?_)
        · refine w_iincN d_c_countMembers_135 rfl ?_
          refine w_goto 50 d_c_countMembers_138 (by decide) ?_
          have hkw : k = w := by omega
          refine hn9 h55 _ _ _ g1 g2 ?_
          intro c hc
          refine ⟨g3 c hc, fun j hj => ?_⟩
          rw [g4 c hc j hj]
          by_cases hcc : c = c0
          · rw [if_pos ⟨hcc, by omega⟩]
          · rw [if_neg (fun q => hcc q.1)]
            show _ = (if (nrC (cen S) (itm S fr) w m) i = c then _ else _)
            rw [if_neg (fun q => hcc (q.symm.trans hc0.symm))]
        · refine w_aload_n d_c_countMembers_105 rfl ?_
          refine w_getR d_c_countMembers_106 FL_c_19 (by decide) (rfl) (rfl) ?_
          refine w_iload_n d_c_countMembers_109 rfl ?_
          refine w_aaldN d_c_countMembers_110 (by decide) (rfl) (show c0 < 4 from (by omega)) ?_
          show Wp _ _ _ (.ref (100 + c0) :: _) _ _
          refine w_iload_n d_c_countMembers_111 rfl ?_
          refine w_dup2 d_c_countMembers_112 rfl rfl ?_
          refine w_ialdNV (v := ((sumC (nrC (cen S) (itm S fr) w m) (itm S fr) c0 k i))) d_c_countMembers_113 (by omega) (kd_row100 (by omega)) (show k < ln (100 + c0) by rw [ln_row100 (by omega)]; omega) (by rw [g4 c0 hc0m k h102, if_neg (by omega)]) ?_
          refine w_aload_n d_c_countMembers_114 rfl ?_
          refine w_getR d_c_countMembers_115 FL_c_11 (by decide) (rfl) (rfl) ?_
          refine w_iload_n d_c_countMembers_118 rfl ?_
          refine w_aaldN d_c_countMembers_119 (by decide) (rfl) (show i < 24 from (by omega)) ?_
          show Wp _ _ _ (.ref (72 + i) :: _) _ _
          show Wp _ 120 _ _ _ _
          refine w_aload_n d_c_countMembers_120 rfl ?_
          refine w_getIV (v := (nI fr)) d_c_countMembers_121 FL_c_29 (by decide) (rfl) (rfl) (hF2.2.1) ?_
          refine w_iload_n d_c_countMembers_124 rfl ?_
          refine w_iaddN d_c_countMembers_125 ?_
          refine w_ialdNV (v := ((itm S fr i k))) d_c_countMembers_126 (by omega) (kd_row72 (by omega)) (show fr + k < ln (72 + i) by rw [ln_row72 (by omega)]; omega) (itm_keep g1 (by omega) k) ?_
          refine w_iadd d_c_countMembers_127 ?_
          refine w_iastNP d_c_countMembers_128 (by omega) (kd_row100 (by omega)) (show k < ln (100 + c0) by rw [ln_row100 (by omega)]; omega) ?_
          refine w_iincN d_c_countMembers_129 rfl ?_
          refine w_goto 97 d_c_countMembers_132 (by decide) ?_
          refine hn8 h102 _ (g1.put (by omega)) (fun c hc k => by rw [put_ne (by omega)]; exact g2 c hc k) (fun c hc => by rw [put_ne (by omega)]; exact g3 c hc) ?_
          intro c hc j hj
          by_cases hcj : c = c0 ∧ j = k
          · obtain ⟨rfl, rfl⟩ := hcj
            rw [put_at, if_pos ⟨rfl, Nat.lt_succ_self _⟩]
            show _ = (if (nrC (cen S) (itm S fr) w m) i = c then _ else _)
            rw [if_pos hc0.symm]
          · rw [put_ne (by omega), g4 c hc j hj]
            by_cases hcj2 : c = c0 ∧ j < k
            · rw [if_pos hcj2, if_pos (by omega)]
            · rw [if_neg hcj2, if_neg (by omega)]
      refine hin 0 (by omega) _ (h1.put (by omega)) (fun c hc k => by rw [put_ne (by omega)]; exact h2 c hc k) ?_ ?_
      · intro c hc
        show _ = nI (memC (nrC (cen S) (itm S fr) w m) c i + if (nrC (cen S) (itm S fr) w m) i = c then 1 else 0)
        by_cases hcc : c = c0
        · rw [hcc, put_at, if_pos hc0.symm]
        · rw [put_ne (by omega), (h3 c hc).1, if_neg (fun q => hcc (q.symm.trans hc0.symm)), Nat.add_zero]
      · intro c hc j hj
        rw [put_ne (by omega), if_neg (by omega)]
        exact (h3 c hc).2 j hj
  have hk0 : ∀ c, c ≤ m → ∀ (S1 : St) (x2 : Value), FrC S S1 → (∀ c, c < 4 → ∀ k, S1.1 (96 + c) k = S.1 (96 + c) k) → (∀ d, d < c → S1.1 14 d = nI 0 ∧ ∀ k, k < w → S1.1 (100 + d) k = nI 0) → Wp M_c_countMembers 2 [.ref 3, .int (nI c), x2, .null] [] S1 (fun v9 S' => v9 = none ∧ FrC S S' ∧ (∀ c, c < 4 → ∀ k, S'.1 (96 + c) k = S.1 (96 + c) k) ∧ ∀ c, c < m → S'.1 14 c = nI (memC (nrC (cen S) (itm S fr) w m) c n) ∧ ∀ k, k < w → S'.1 (100 + c) k = sumC (nrC (cen S) (itm S fr) w m) (itm S fr) c k n) := by
    refine loopUp (m) (fun c hk9 hn9 => ?_)
    intro S1 x2 h1 h2 h3
    have hF1 := hF0.keep h1
    refine w_iload_n d_c_countMembers_2 rfl ?_
    refine w_aload_n d_c_countMembers_3 rfl ?_
    refine w_getIV (v := (nI m)) d_c_countMembers_4 FL_c_36 (by decide) (rfl) (rfl) (hF1.2.2.2.1) ?_
    refine w_icmp_geN 48 d_c_countMembers_7 (by decide) (by omega) (by omega) (fun h7 => ?_) (fun h7 => ?_)
    · refine w_iconst (v := nI 0) d_c_countMembers_48 (by decide +kernel) ?_
      refine w_istore_n d_c_countMembers_49 (Nat.le_of_ble_eq_true rfl) ?_
      obtain rfl : c = m := by omega
      refine hk1 0 (by omega) _ _ _ h1 h2 ?_
      intro d hd
      exact ⟨(h3 d hd).1, fun k hk => (h3 d hd).2 k hk⟩
    · refine w_aload_n d_c_countMembers_10 rfl ?_
      refine w_getR d_c_countMembers_11 FL_c_22 (by decide) (rfl) (rfl) ?_
      refine w_iload_n d_c_countMembers_14 rfl ?_
      refine w_iconst (v := nI 0) d_c_countMembers_15 (by decide +kernel) ?_
      refine w_iastNP d_c_countMembers_16 (by decide) (rfl) (show c < 4 from (by omega)) ?_
      refine w_iconst (v := nI 0) d_c_countMembers_17 (by decide +kernel) ?_
      refine w_istore_n d_c_countMembers_18 (Nat.le_of_ble_eq_true rfl) ?_
      have hin : ∀ k, k ≤ w → ∀ (S2 : St), FrC S S2 → (∀ c, c < 4 → ∀ k, S2.1 (96 + c) k = S.1 (96 + c) k) → (∀ d, d < c → S2.1 14 d = nI 0 ∧ ∀ k, k < w → S2.1 (100 + d) k = nI 0) → S2.1 14 c = nI 0 → (∀ j, j < k → S2.1 (100 + c) j = nI 0) → Wp M_c_countMembers 19 [.ref 3, .int (nI c), .int (nI k), .null] [] S2 (fun v9 S' => v9 = none ∧ FrC S S' ∧ (∀ c, c < 4 → ∀ k, S'.1 (96 + c) k = S.1 (96 + c) k) ∧ ∀ c, c < m → S'.1 14 c = nI (memC (nrC (cen S) (itm S fr) w m) c n) ∧ ∀ k, k < w → S'.1 (100 + c) k = sumC (nrC (cen S) (itm S fr) w m) (itm S fr) c k n) := by
        refine loopUp (w) (fun k hk8 hn8 => ?_)
        intro S2 g1 g2 g3 g4 g5
        have hF2 := hF0.keep g1
        refine w_iload_n d_c_countMembers_19 rfl ?_
        refine w_aload_n d_c_countMembers_20 rfl ?_
        refine w_getIV (v := (nI w)) d_c_countMembers_21 FL_c_33 (by decide) (rfl) (rfl) (hF2.2.2.1) ?_
        refine w_icmp_geN 42 d_c_countMembers_24 (by decide) (by omega) (by omega) (fun h24 => ?_) (fun h24 => ?_)
        · refine w_iincN d_c_countMembers_42 rfl ?_
          refine w_goto 2 d_c_countMembers_45 (by decide) ?_
          obtain rfl : k = w := by omega
          refine hn9 h7 _ _ g1 g2 ?_
          exact lt_s g3 ⟨g4, g5⟩
        · refine w_aload_n d_c_countMembers_27 rfl ?_
          refine w_getR d_c_countMembers_28 FL_c_19 (by decide) (rfl) (rfl) ?_
          refine w_iload_n d_c_countMembers_31 rfl ?_
          refine w_aaldN d_c_countMembers_32 (by decide) (rfl) (show c < 4 from (by omega)) ?_
          show Wp _ _ _ (.ref (100 + c) :: _) _ _
          refine w_iload_n d_c_countMembers_33 rfl ?_
          refine w_iconst (v := nI 0) d_c_countMembers_34 (by decide +kernel) ?_
          refine w_iastNP d_c_countMembers_35 (by omega) (kd_row100 (by omega)) (show k < ln (100 + c) by rw [ln_row100 (by omega)]; omega) ?_
          refine w_iincN d_c_countMembers_36 rfl ?_
          refine w_goto 19 d_c_countMembers_39 (by decide) ?_
          refine hn8 h24 _ (g1.put (by omega)) (fun c hc k => by rw [put_ne (by omega)]; exact g2 c hc k) ?_ (by rw [put_ne (by omega)]; exact g4) ?_
          · intro d hd
            refine ⟨by rw [put_ne (by omega)]; exact (g3 d hd).1, fun j hj => ?_⟩
            rw [put_ne (by omega)]
            exact (g3 d hd).2 j hj
          · intro j hj
            by_cases hjk : j = k
            · rw [hjk, put_at]
            · rw [put_ne (by omega)]
              exact g5 j (by omega)
      refine hin 0 (by omega) _ (h1.put (by omega)) (fun c hc k => by rw [put_ne (by omega)]; exact h2 c hc k) ?_ put_at (fun j hj => absurd hj (by omega))
      intro d hd
      refine ⟨by rw [put_ne (by omega)]; exact (h3 d hd).1, fun j hj => ?_⟩
      rw [put_ne (by omega)]
      exact (h3 d hd).2 j hj
  refine w_iconst (v := nI 0) d_c_countMembers_0 (by decide +kernel) ?_
  refine w_istore_n d_c_countMembers_1 (Nat.le_of_ble_eq_true rfl) ?_
  exact hk0 0 (by omega) _ _ (FrC.rf S) (fun _ _ _ => rfl) lt_0
def mvC (S : St) (M : Nat → Nat) (c k : Nat) : Int32 := if 0 < M c then fdv (S.1 (100 + c) k) (nI (M c)) else S.1 (96 + c) k
set_option maxRecDepth 100000 in
set_option maxHeartbeats 4000000 in
theorem c_c_moveToMeans (S : St) (n fr w m : Nat) (hF : CF S n fr w m) (M : Nat → Nat) (hM : ∀ c, c < m → S.1 14 c = nI (M c) ∧ M c ≤ 24) : Ev M_c_moveToMeans [.ref 3] S (fun v9 S' => v9 = none ∧ FrC S S' ∧ (∀ c, S'.1 14 c = S.1 14 c) ∧ ∀ c, c < m → ∀ k, k < w → S'.1 (96 + c) k = mvC S M c k) := by
  refine Ev.of MF_c_moveToMeans (all_cat rfl) (Nat.le_of_ble_eq_true rfl) ?_
  show Wp M_c_moveToMeans 0 [.ref 3, .null, .null] [] _ _
  have hF0 := hF
  obtain ⟨hn, hfr, hw, hm, hn0, hn24, hfw, hw0, hm0, hm4⟩ := hF
  have hk0 : ∀ c, c ≤ m → ∀ (S1 : St) (x2 : Value), FrC S S1 → (∀ a i, (a = 14 ∨ (100 ≤ a ∧ a < 104)) → S1.1 a i = S.1 a i) → (∀ d, d < 4 → ∀ j, S1.1 (96 + d) j = if d < c ∧ j < w then mvC S M d j else S.1 (96 + d) j) → Wp M_c_moveToMeans 2 [.ref 3, .int (nI c), x2] [] S1 (fun v9 S' => v9 = none ∧ FrC S S' ∧ (∀ c, S'.1 14 c = S.1 14 c) ∧ ∀ c, c < m → ∀ k, k < w → S'.1 (96 + c) k = mvC S M c k) := by
    refine loopUp (m) (fun c hk9 hn9 => ?_)
    intro S1 x2 h1 h2 h3
    have hF1 := hF0.keep h1
    refine w_iload_n d_c_moveToMeans_2 rfl ?_
    refine w_aload_n d_c_moveToMeans_3 rfl ?_
    refine w_getIV (v := (nI m)) d_c_moveToMeans_4 FL_c_36 (by decide) (rfl) (rfl) (hF1.2.2.2.1) ?_
    refine w_icmp_geN 66 d_c_moveToMeans_7 (by decide) (by omega) (by omega) (fun h7 => ?_) (fun h7 => ?_)
    · refine w_ret (st := []) rfl d_c_moveToMeans_66 ?_
      obtain rfl : c = m := by omega
      refine ⟨rfl, h1, fun c => h2 14 c (by omega), fun d hd k hk => ?_⟩
      rw [h3 d (by omega) k, if_pos ⟨hd, hk⟩]
    · refine w_aload_n d_c_moveToMeans_10 rfl ?_
      refine w_getR d_c_moveToMeans_11 FL_c_22 (by decide) (rfl) (rfl) ?_
      refine w_iload_n d_c_moveToMeans_14 rfl ?_
      refine w_ialdNV (v := (nI (M c))) d_c_moveToMeans_15 (by decide) (rfl) (show c < 4 from (by omega)) ((h2 14 c (by omega)).trans (hM c h7).1) ?_
      have hM24 := (hM c h7).2
      refine w_if_leN 60 d_c_moveToMeans_16 (by decide) (by omega) (fun h16 => ?_) (fun h16 => ?_)
      · refine w_iincN d_c_moveToMeans_60 rfl ?_
        refine w_goto 2 d_c_moveToMeans_63 (by decide) ?_
        refine hn9 h7 _ _ h1 h2 ?_
        intro d hd j
        rw [h3 d hd j]
        by_cases hcond : d < c ∧ j < w
        · rw [if_pos hcond, if_pos (by omega)]
        · rw [if_neg hcond]
          by_cases hd2 : d < c + 1 ∧ j < w
          · rw [if_pos hd2]
            obtain rfl : d = c := by omega
            unfold mvC
            rw [if_neg (by omega)]
          · rw [if_neg hd2]
      · refine w_iconst (v := nI 0) d_c_moveToMeans_19 (by decide +kernel) ?_
        refine w_istore_n d_c_moveToMeans_20 (Nat.le_of_ble_eq_true rfl) ?_
        have hin : ∀ k, k ≤ w → ∀ (S2 : St), FrC S S2 → (∀ a i, (a = 14 ∨ (100 ≤ a ∧ a < 104)) → S2.1 a i = S.1 a i) → (∀ d, d < 4 → ∀ j, S2.1 (96 + d) j = if (d < c ∧ j < w) ∨ (d = c ∧ j < k) then mvC S M d j else S.1 (96 + d) j) → Wp M_c_moveToMeans 21 [.ref 3, .int (nI c), .int (nI k)] [] S2 (fun v9 S' => v9 = none ∧ FrC S S' ∧ (∀ c, S'.1 14 c = S.1 14 c) ∧ ∀ c, c < m → ∀ k, k < w → S'.1 (96 + c) k = mvC S M c k) := by
          refine loopUp (w) (fun k hk8 hn8 => ?_)
          intro S2 g1 g2 g3
          have hF2 := hF0.keep g1
          refine w_iload_n d_c_moveToMeans_21 rfl ?_
          refine w_aload_n d_c_moveToMeans_22 rfl ?_
          refine w_getIV (v := (nI w)) d_c_moveToMeans_23 FL_c_33 (by decide) (rfl) (rfl) (hF2.2.2.1) ?_
          refine w_icmp_geN 60 d_c_moveToMeans_26 (by decide) (by omega) (by omega) (fun h26 => ?_) (fun h26 => ?_)
          · refine w_iincN d_c_moveToMeans_60 rfl ?_
            refine w_goto 2 d_c_moveToMeans_63 (by decide) ?_
            refine hn9 h7 _ _ g1 g2 ?_
            intro d hd j
            rw [g3 d hd j]
            by_cases hcond : d < c + 1 ∧ j < w
            · rw [if_pos hcond, if_pos (by omega)]
            · rw [if_neg hcond, if_neg (by omega)]
          · refine w_aload_n d_c_moveToMeans_29 rfl ?_
            refine w_getR d_c_moveToMeans_30 FL_c_16 (by decide) (rfl) (rfl) ?_
            refine w_iload_n d_c_moveToMeans_33 rfl ?_
            refine w_aaldN d_c_moveToMeans_34 (by decide) (rfl) (show c < 4 from (by omega)) ?_
            show Wp _ _ _ (.ref (96 + c) :: _) _ _
            refine w_iload_n d_c_moveToMeans_35 rfl ?_
            refine w_aload_n d_c_moveToMeans_36 rfl ?_
            refine w_getR d_c_moveToMeans_37 FL_c_19 (by decide) (rfl) (rfl) ?_
            refine w_iload_n d_c_moveToMeans_40 rfl ?_
            refine w_aaldN d_c_moveToMeans_41 (by decide) (rfl) (show c < 4 from (by omega)) ?_
            show Wp _ _ _ (.ref (100 + c) :: _) _ _
            refine w_iload_n d_c_moveToMeans_42 rfl ?_
            refine w_ialdNV (v := ((S.1 (100 + c) k))) d_c_moveToMeans_43 (by omega) (kd_row100 (by omega)) (show k < ln (100 + c) by rw [ln_row100 (by omega)]; omega) (g2 _ _ (by omega)) ?_
            show Wp _ 44 _ _ _ _
            refine w_aload_n d_c_moveToMeans_44 rfl ?_
            refine w_getR d_c_moveToMeans_45 FL_c_22 (by decide) (rfl) (rfl) ?_
            refine w_iload_n d_c_moveToMeans_48 rfl ?_
            refine w_ialdNV (v := (nI (M c))) d_c_moveToMeans_49 (by decide) (rfl) (show c < 4 from (by omega)) ((g2 14 c (by omega)).trans (hM c h7).1) ?_
            refine w_callS2 (N := M_j_floorDiv) d_c_moveToMeans_50 LK_c_79 MF_j_floorDiv MS_j_floorDiv NP_j_floorDiv (by decide) rfl (Nat.le_of_ble_eq_true rfl) ?_
            refine Ev.det (c_j_floorDiv _ _ _ (nI_ne0 (by omega) (by have := (hM c h7).2; omega))) ?_
            refine w_iastNP d_c_moveToMeans_53 (by omega) (kd_row96 (by omega)) (show k < ln (96 + c) by rw [ln_row96 (by omega)]; omega) ?_
            refine w_iincN d_c_moveToMeans_54 rfl ?_
            refine w_goto 21 d_c_moveToMeans_57 (by decide) ?_
            refine hn8 h26 _ (g1.put (by omega)) (fun a i ha => by rw [put_ne (by omega)]; exact g2 a i ha) ?_
            intro d hd j
            by_cases hdj : d = c ∧ j = k
            · obtain ⟨rfl, rfl⟩ := hdj
              rw [put_at, if_pos (by omega)]
              unfold mvC
              rw [if_pos (by omega)]
            · rw [put_ne (by omega), g3 d hd j]
              by_cases hcond : (d < c ∧ j < w) ∨ (d = c ∧ j < k)
              · rw [if_pos hcond, if_pos (by omega)]
              · rw [if_neg hcond, if_neg (by omega)]
        refine hin 0 (by omega) _ h1 h2 ?_
        intro d hd j
        rw [h3 d hd j]
        by_cases hcond : d < c ∧ j < w
        · rw [if_pos hcond, if_pos (by omega)]
        · rw [if_neg hcond, if_neg (by omega)]
  refine w_iconst (v := nI 0) d_c_moveToMeans_0 (by decide +kernel) ?_
  refine w_istore_n d_c_moveToMeans_1 (Nat.le_of_ble_eq_true rfl) ?_
  exact hk0 0 (by omega) _ _ (FrC.rf S) (fun _ _ _ => rfl) (fun d _ j => by rw [if_neg (by omega)])
set_option maxRecDepth 100000 in
set_option maxHeartbeats 4000000 in
theorem c_c_splitInto (S : St) (n fr w m : Nat) (hF : CF S n fr w m) (s : Nat → Nat) (hs : ∀ c, c < m → S.1 15 c = nI (s c) ∧ s c ≤ 24) (e b : Nat) (he : e < m) (hb : b < m) (heb : b ≠ e ∨ s e = 0) : Ev M_c_splitInto [.ref 3, .int (nI e), .int (nI b)] S (fun v9 S' => v9 = none ∧ FrC S S' ∧ (∀ c, S'.1 14 c = S.1 14 c) ∧ (∀ c, c < m → ∀ k, k < w → S'.1 (96 + c) k = (spl (cen S, s) e b).1 c k) ∧ ∀ c, c < m → S'.1 15 c = nI ((spl (cen S, s) e b).2 c)) := by
  refine Ev.of MF_c_splitInto (all_cat rfl) (Nat.le_of_ble_eq_true rfl) ?_
  show Wp M_c_splitInto 0 [.ref 3, .int (nI e), .int (nI b), .null] [] _ _
  have hF0 := hF
  obtain ⟨hn, hfr, hw, hm, hn0, hn24, hfw, hw0, hm0, hm4⟩ := hF
  have hsb := (hs b hb).2
  have hk0 : ∀ k, k ≤ w → ∀ (S1 : St), S1 = setRow S (96 + e) (cen S b) k → Wp M_c_splitInto 2 [.ref 3, .int (nI e), .int (nI b), .int (nI k)] [] S1 (fun v9 S' => v9 = none ∧ FrC S S' ∧ (∀ c, S'.1 14 c = S.1 14 c) ∧ (∀ c, c < m → ∀ k, k < w → S'.1 (96 + c) k = (spl (cen S, s) e b).1 c k) ∧ ∀ c, c < m → S'.1 15 c = nI ((spl (cen S, s) e b).2 c)) := by
    refine loopUp (w) (fun k hk9 hn9 => ?_)
    intro S1 hS
    have e3 : ∀ j, S1.1 3 j = S.1 3 j := fun j => by rw [hS, setRow_ne (by omega)]
    refine w_iload_n d_c_splitInto_2 rfl ?_
    refine w_aload_n d_c_splitInto_3 rfl ?_
    refine w_getIV (v := (nI w)) d_c_splitInto_4 FL_c_33 (by decide) (rfl) (rfl) ((e3 7).trans hw) ?_
    refine w_icmp_geN 32 d_c_splitInto_7 (by decide) (by omega) (by omega) (fun h7 => ?_) (fun h7 => ?_)
    · refine w_aload_n d_c_splitInto_32 rfl ?_
      refine w_getR d_c_splitInto_33 FL_c_16 (by decide) (rfl) (rfl) ?_
      refine w_iload_n d_c_splitInto_36 rfl ?_
      refine w_aaldN d_c_splitInto_37 (by decide) (rfl) (show e < 4 from (by omega)) ?_
      show Wp _ _ _ (.ref (96 + e) :: _) _ _
      refine w_iconst (v := nI 0) d_c_splitInto_38 (by decide +kernel) ?_
      refine w_dup2 d_c_splitInto_39 rfl rfl ?_
      refine w_ialdNV (v := ((cen S b 0))) d_c_splitInto_40 (by omega) (kd_row96 (by omega)) (show 0 < ln (96 + e) by rw [ln_row96 (by omega)]; omega) (by subst hS; rw [setRow_at (by omega)]) ?_
      refine w_iconst (v := nI 1) d_c_splitInto_41 (by decide +kernel) ?_
      refine w_iadd d_c_splitInto_42 ?_
      refine w_iastNP d_c_splitInto_43 (by omega) (kd_row96 (by omega)) (show 0 < ln (96 + e) by rw [ln_row96 (by omega)]; omega) ?_
      refine w_aload_n d_c_splitInto_44 rfl ?_
      show Wp _ 45 _ _ _ _
      refine w_getR d_c_splitInto_45 FL_c_26 (by decide) (rfl) (rfl) ?_
      refine w_iload_n d_c_splitInto_48 rfl ?_
      refine w_aload_n d_c_splitInto_49 rfl ?_
      refine w_getR d_c_splitInto_50 FL_c_26 (by decide) (rfl) (rfl) ?_
      refine w_iload_n d_c_splitInto_53 rfl ?_
      refine w_ialdNV (v := (nI (s b))) d_c_splitInto_54 (by decide) (rfl) (show b < 4 from (by omega)) (by subst hS; rw [put_ne (by omega), setRow_ne (by omega)]; exact (hs b hb).1) ?_
      refine w_iconst (v := nI 2) d_c_splitInto_55 (by decide +kernel) ?_
      refine w_idivN d_c_splitInto_56 (by omega) (by omega) (by omega) ?_
      refine w_iastNP d_c_splitInto_57 (by decide) (rfl) (show e < 4 from (by omega)) ?_
      refine w_aload_n d_c_splitInto_58 rfl ?_
      refine w_getR d_c_splitInto_59 FL_c_26 (by decide) (rfl) (rfl) ?_
      refine w_iload_n d_c_splitInto_62 rfl ?_
      show Wp _ 63 _ _ _ _
      refine w_dup2 d_c_splitInto_63 rfl rfl ?_
      refine w_ialdNV (v := (nI ((if b = e then s b / 2 else s b)))) d_c_splitInto_64 (by decide) (rfl) (show b < 4 from (by omega)) (by subst hS; exact (if hbe : b = e then (by rw [if_pos hbe, hbe, put_at]) else (by rw [if_neg hbe, put_ne (by omega), put_ne (by omega), setRow_ne (by omega)]; exact (hs b hb).1))) ?_
      refine w_aload_n d_c_splitInto_65 rfl ?_
      refine w_getR d_c_splitInto_66 FL_c_26 (by decide) (rfl) (rfl) ?_
      refine w_iload_n d_c_splitInto_69 rfl ?_
      refine w_ialdNV (v := (nI (s b / 2))) d_c_splitInto_70 (by decide) (rfl) (show e < 4 from (by omega)) (put_at) ?_
      refine w_isubN d_c_splitInto_71 (by split <;> omega) ?_
      refine w_iastNP d_c_splitInto_72 (by decide) (rfl) (show b < 4 from (by omega)) ?_
      refine w_ret (st := []) rfl d_c_splitInto_73 ?_
      subst hS
      obtain rfl : k = w := by omega
      refine ⟨rfl, ?_, ?_, ?_, ?_⟩
      · exact ((((FrC.rf S).row (by omega)).put (by omega)).put (by omega)).put (by omega)
      · intro c
        rw [put_ne (by omega), put_ne (by omega), put_ne (by omega), setRow_ne (by omega)]
      · intro c hc j hj
        show _ = (if c = e then cen S b j + (if j = 0 then 1 else 0) else cen S c j)
        rw [put_ne (by omega), put_ne (by omega)]
        by_cases hce : c = e
        · subst hce
          rw [if_pos rfl]
          by_cases hj0 : j = 0
          · subst hj0
            rw [put_at, if_pos rfl]
            rfl
          · rw [put_ne (by omega), setRow_at hj, if_neg hj0, Int32.add_zero]
        · rw [put_ne (by omega), setRow_ne (by omega), if_neg hce]
          rfl
      · intro c hc
        show _ = nI (if c = e then s b / 2 else if c = b then s b - s b / 2 else s c)
        by_cases hcb : c = b
        · subst hcb
          rw [put_at]
          by_cases hce : c = e
          · have h0 : s c = 0 := by
              rcases heb with q | q
              · exact absurd hce q
              · rw [hce]; exact q
            rw [if_pos hce, if_pos hce, h0]
          · rw [if_neg hce, if_neg hce, if_pos rfl]
        · rw [put_ne (by omega), if_neg hcb]
          by_cases hce : c = e
          · rw [hce, put_at, if_pos rfl]
          · rw [put_ne (by omega), put_ne (by omega), setRow_ne (by omega), if_neg hce]
            exact (hs c hc).1
    · refine w_aload_n d_c_splitInto_10 rfl ?_
      refine w_getR d_c_splitInto_11 FL_c_16 (by decide) (rfl) (rfl) ?_
      refine w_iload_n d_c_splitInto_14 rfl ?_
      refine w_aaldN d_c_splitInto_15 (by decide) (rfl) (show e < 4 from (by omega)) ?_
      show Wp _ _ _ (.ref (96 + e) :: _) _ _
      refine w_iload_n d_c_splitInto_16 rfl ?_
      refine w_aload_n d_c_splitInto_17 rfl ?_
      refine w_getR d_c_splitInto_18 FL_c_16 (by decide) (rfl) (rfl) ?_
      refine w_iload_n d_c_splitInto_21 rfl ?_
      refine w_aaldN d_c_splitInto_22 (by decide) (rfl) (show b < 4 from (by omega)) ?_
      show Wp _ _ _ (.ref (96 + b) :: _) _ _
      refine w_iload_n d_c_splitInto_23 rfl ?_
      refine w_ialdNV (v := ((cen S b k))) d_c_splitInto_24 (by omega) (kd_row96 (by omega)) (show k < ln (96 + b) by rw [ln_row96 (by omega)]; omega) (by rw [hS]; exact (if hbe : b = e then (by subst hbe; rw [setRow_hi (Nat.lt_irrefl k)]; rfl) else (by rw [setRow_ne (by omega)]; rfl))) ?_
      show Wp _ 25 _ _ _ _
      refine w_iastNP d_c_splitInto_25 (by omega) (kd_row96 (by omega)) (show k < ln (96 + e) by rw [ln_row96 (by omega)]; omega) ?_
      refine w_iincN d_c_splitInto_26 rfl ?_
      refine w_goto 2 d_c_splitInto_29 (by decide) ?_
      refine hn9 h7 _ ?_
      rw [hS]
      exact setRow_s rfl
  refine w_iconst (v := nI 0) d_c_splitInto_0 (by decide +kernel) ?_
  refine w_istore_n d_c_splitInto_1 (Nat.le_of_ble_eq_true rfl) ?_
  exact hk0 0 (by omega) _ (setRow_0 _ _ _).symm
set_option maxRecDepth 100000 in
set_option maxHeartbeats 4000000 in
theorem c_c_fillEmptyCentres (S : St) (n fr w m : Nat) (hF : CF S n fr w m) (M : Nat → Nat) (hM : ∀ c, c < m → S.1 14 c = nI (M c) ∧ M c ≤ 24) : Ev M_c_fillEmptyCentres [.ref 3] S (fun v9 S' => v9 = none ∧ FrC S S' ∧ ∀ c, c < m → ∀ k, k < w → S'.1 (96 + c) k = (fil (cen S) M m m).1 c k) := by
  refine Ev.of MF_c_fillEmptyCentres (all_cat rfl) (Nat.le_of_ble_eq_true rfl) ?_
  show Wp M_c_fillEmptyCentres 0 [.ref 3, .null] [] _ _
  have hF0 := hF
  obtain ⟨hn, hfr, hw, hm, hn0, hn24, hfw, hw0, hm0, hm4⟩ := hF
  have hle : ∀ e c, c < m → (fil (cen S) (fun c => if c < m then M c else 0) m e).2 c ≤ 24 := fun e c _ => fil_le (fun c => by show (if c < m then M c else 0) ≤ 24; exact (if h : c < m then (by rw [if_pos h]; exact (hM c h).2) else (by rw [if_neg h]; omega))) e c
  have hle2 : ∀ e, e ≤ m → ∀ c, c < m → (fil (cen S) M m e).2 c ≤ 24 := fun e he c hc => by rw [(fil_congr (w := w) (D := cen S) (nem := fun c => if c < m then M c else 0) hm0 (fun _ _ _ _ => rfl) (fun c hc => (if_pos hc).symm) e he).2 c hc]; exact hle e c hc
  have hk1 : ∀ e, e ≤ m → ∀ (S1 : St), FrC S S1 → (∀ c, S1.1 14 c = S.1 14 c) → (∀ c, c < m → ∀ k, k < w → S1.1 (96 + c) k = (fil (cen S) M m e).1 c k) → (∀ c, c < m → S1.1 15 c = nI ((fil (cen S) M m e).2 c)) → Wp M_c_fillEmptyCentres 30 [.ref 3, .int (nI e)] [] S1 (fun v9 S' => v9 = none ∧ FrC S S' ∧ ∀ c, c < m → ∀ k, k < w → S'.1 (96 + c) k = (fil (cen S) M m m).1 c k) := by
    refine loopUp (m) (fun e hk9 hn9 => ?_)
    intro S1 h1 h2 h3 h4
    have hF1 := hF0.keep h1
    have h5 : ∀ c, c < m → S1.1 15 c = nI ((fil (cen S) M m e).2 c) ∧ (fil (cen S) M m e).2 c ≤ 24 := fun c hc => ⟨h4 c hc, hle2 e hk9 c hc⟩
    refine w_iload_n d_c_fillEmptyCentres_30 rfl ?_
    refine w_aload_n d_c_fillEmptyCentres_31 rfl ?_
    refine w_getIV (v := (nI m)) d_c_fillEmptyCentres_32 FL_c_36 (by decide) (rfl) (rfl) (hF1.2.2.2.1) ?_
    refine w_icmp_geN 62 d_c_fillEmptyCentres_35 (by decide) (by omega) (by omega) (fun h35 => ?_) (fun h35 => ?_)
    · refine w_ret (st := []) rfl d_c_fillEmptyCentres_62 ?_
      obtain rfl : e = m := by omega
      exact ⟨rfl, h1, h3⟩
    · refine w_aload_n d_c_fillEmptyCentres_38 rfl ?_
      refine w_getR d_c_fillEmptyCentres_39 FL_c_22 (by decide) (rfl) (rfl) ?_
      refine w_iload_n d_c_fillEmptyCentres_42 rfl ?_
      refine w_ialdNV (v := (nI (M e))) d_c_fillEmptyCentres_43 (by decide) (rfl) (show e < 4 from (by omega)) ((h2 e).trans (hM e h35).1) ?_
      have hM24 := (hM e h35).2
      refine w_if_neN 56 d_c_fillEmptyCentres_44 (by decide) (by omega) (fun h44 => ?_) (fun h44 => ?_)
      · refine w_iincN d_c_fillEmptyCentres_56 rfl ?_
        refine w_goto 30 d_c_fillEmptyCentres_59 (by decide) ?_
        have e1 : fil (cen S) M m (e + 1) = (fil (cen S) M m e) := by show (if M e = 0 then _ else _) = _; rw [if_neg h44]
        refine hn9 h35 _ h1 h2 ?_ ?_
        · rw [e1]; exact h3
        · rw [e1]; exact h4
      · refine w_aload_n d_c_fillEmptyCentres_47 rfl ?_
        refine w_iload_n d_c_fillEmptyCentres_48 rfl ?_
        refine w_aload_n d_c_fillEmptyCentres_49 rfl ?_
        refine w_callV0 (N := M_c_greatestShare) d_c_fillEmptyCentres_50 LK_c_82 MF_c_greatestShare MV_c_greatestShare NP_c_greatestShare (by decide) (by decide) (rfl) rfl rfl (Nat.le_of_ble_eq_true rfl) ?_
        refine Ev.det (c_c_greatestShare S1 n fr w m hF1 (fil (cen S) M m e).2 h5) ?_
        refine w_callV2 (N := M_c_splitInto) d_c_fillEmptyCentres_53 LK_c_86 MF_c_splitInto MV_c_splitInto NP_c_splitInto (by decide) (by decide) (rfl) rfl rfl (Nat.le_of_ble_eq_true rfl) ?_
        refine Ev.mono (c_c_splitInto S1 n fr w m hF1 (fil (cen S) M m e).2 h5 e _ h35 (gst_lt _ _ hm0) (Or.inr (fil_0 e e (Nat.le_refl e) h44))) (fun r S2 hq => ?_)
        obtain ⟨rfl, g1, g2, g3, g4⟩ := hq
        show Wp _ _ _ [] _ _
        refine w_iincN d_c_fillEmptyCentres_56 rfl ?_
        refine w_goto 30 d_c_fillEmptyCentres_59 (by decide) ?_
        have e1 : fil (cen S) M m (e + 1) = spl (fil (cen S) M m e) e (gst (fil (cen S) M m e).2 m) := by show (if M e = 0 then _ else _) = _; rw [if_pos h44]
        have hgm := gst_lt (fil (cen S) M m e).2 m hm0
        refine hn9 h35 _ (h1.tr g1) (fun c => (g2 c).trans (h2 c)) ?_ ?_
        · rw [e1]
          intro c hc k hk
          rw [g3 c hc k hk]
          show (if c = e then cen S1 _ k + _ else cen S1 c k) = (if c = e then ((fil (cen S) M m e)).1 _ k + _ else ((fil (cen S) M m e)).1 c k)
          have k1 : cen S1 (gst (fil (cen S) M m e).2 m) k = (fil (cen S) M m e).1 (gst (fil (cen S) M m e).2 m) k := h3 _ hgm k hk
          have k2 : cen S1 c k = (fil (cen S) M m e).1 c k := h3 c hc k hk
          rw [k1, k2]
        · rw [e1]
          exact g4
  have hk0 : ∀ c, c ≤ m → ∀ (S1 : St), S1 = setRow S 15 (fun c => nI (M c)) c → Wp M_c_fillEmptyCentres 2 [.ref 3, .int (nI c)] [] S1 (fun v9 S' => v9 = none ∧ FrC S S' ∧ ∀ c, c < m → ∀ k, k < w → S'.1 (96 + c) k = (fil (cen S) M m m).1 c k) := by
    refine loopUp (m) (fun c hk9 hn9 => ?_)
    intro S1 hS
    have e3 : ∀ a j, a ≠ 15 → S1.1 a j = S.1 a j := fun a j ha => by rw [hS, setRow_ne ha]
    refine w_iload_n d_c_fillEmptyCentres_2 rfl ?_
    refine w_aload_n d_c_fillEmptyCentres_3 rfl ?_
    refine w_getIV (v := (nI m)) d_c_fillEmptyCentres_4 FL_c_36 (by decide) (rfl) (rfl) ((e3 3 8 (by decide)).trans hm) ?_
    refine w_icmp_geN 28 d_c_fillEmptyCentres_7 (by decide) (by omega) (by omega) (fun h7 => ?_) (fun h7 => ?_)
    · refine w_iconst (v := nI 0) d_c_fillEmptyCentres_28 (by decide +kernel) ?_
      refine w_istore_n d_c_fillEmptyCentres_29 (Nat.le_of_ble_eq_true rfl) ?_
      obtain rfl : c = m := by omega
      refine hk1 0 (by omega) _ (by rw [hS]; exact (FrC.rf S).row (by omega)) (fun c => e3 14 c (by decide)) (fun c hc k hk => e3 _ _ (by omega)) ?_
      intro d hd
      rw [hS, setRow_at hd]
      rfl
    · refine w_aload_n d_c_fillEmptyCentres_10 rfl ?_
      refine w_getR d_c_fillEmptyCentres_11 FL_c_26 (by decide) (rfl) (rfl) ?_
      refine w_iload_n d_c_fillEmptyCentres_14 rfl ?_
      refine w_aload_n d_c_fillEmptyCentres_15 rfl ?_
      refine w_getR d_c_fillEmptyCentres_16 FL_c_22 (by decide) (rfl) (rfl) ?_
      refine w_iload_n d_c_fillEmptyCentres_19 rfl ?_
      refine w_ialdNV (v := (nI (M c))) d_c_fillEmptyCentres_20 (by decide) (rfl) (show c < 4 from (by omega)) ((e3 14 c (by decide)).trans (hM c h7).1) ?_
      refine w_iastNP d_c_fillEmptyCentres_21 (by decide) (rfl) (show c < 4 from (by omega)) ?_
      refine w_iincN d_c_fillEmptyCentres_22 rfl ?_
      refine w_goto 2 d_c_fillEmptyCentres_25 (by decide) ?_
      refine hn9 h7 _ ?_
      rw [hS]
      exact setRow_s rfl
  refine w_iconst (v := nI 0) d_c_fillEmptyCentres_0 (by decide +kernel) ?_
  refine w_istore_n d_c_fillEmptyCentres_1 (Nat.le_of_ble_eq_true rfl) ?_
  exact hk0 0 (by omega) _ (setRow_0 _ _ _).symm
end
section
/-- what the clustering may write, its fields too -/
def FrD (S S' : St) : Prop := S'.2 = S.2 ∧ ∀ a i, ¬ (a = 3 ∨ a = 14 ∨ a = 15 ∨ (96 ≤ a ∧ a < 104)) → S'.1 a i = S.1 a i
theorem FrC.D {S S0 S1 : St} (h : FrC S0 S1) (h0 : FrD S S0) : FrD S S1 := ⟨h.1.trans h0.1, fun a i q => (h.2 a i (fun z => q (Or.inr z))).trans (h0.2 a i q)⟩
theorem FrD.tr {S S0 S1 : St} (h0 : FrD S S0) (h : FrD S0 S1) : FrD S S1 := ⟨h.1.trans h0.1, fun a i q => (h.2 a i q).trans (h0.2 a i q)⟩
set_option maxRecDepth 100000 in
set_option maxHeartbeats 4000000 in
theorem c_c_cluster (S : St) (n fr w m r : Nat) (hn : S.1 3 5 = nI n) (hn0 : 0 < n) (hn24 : n ≤ 24) (hfw : fr + w ≤ 4) (hw0 : 0 < w) (hm0 : 0 < m) (hm4 : m ≤ 4) (hr : r ≤ 8) : Ev M_c_cluster [.ref 3, .int (nI fr), .int (nI w), .int (nI m), .int (nI r)] S (fun v9 S' => v9 = none ∧ FrD S S' ∧ CF S' n fr w m ∧ ∀ c, c < m → ∀ k, k < w → S'.1 (96 + c) k = clu (itm S fr) n w m r c k) := by
  refine Ev.of MF_c_cluster (all_cat rfl) (Nat.le_of_ble_eq_true rfl) ?_
  show Wp M_c_cluster 0 [.ref 3, .int (nI fr), .int (nI w), .int (nI m), .int (nI r), .null] [] _ _
  have hD0 : FrD S (put (put (put S 3 6 (nI fr)) 3 7 (nI w)) 3 8 (nI m)) := ⟨rfl, fun a i q => by rw [put_ne (by omega), put_ne (by omega), put_ne (by omega)]⟩
  have hF0 : CF (put (put (put S 3 6 (nI fr)) 3 7 (nI w)) 3 8 (nI m)) n fr w m := by
    refine ⟨?_, ?_, ?_, ?_, hn0, hn24, hfw, hw0, hm0, hm4⟩
    · rw [put_ne (by omega), put_ne (by omega), put_ne (by omega)]; exact hn
    · rw [put_ne (by omega), put_ne (by omega), put_at]
    · rw [put_ne (by omega), put_at]
    · rw [put_at]
  have hI0 : ∀ i, i < 24 → ∀ k, itm (put (put (put S 3 6 (nI fr)) 3 7 (nI w)) 3 8 (nI m)) fr i k = itm S fr i k := fun i hi k => hD0.2 _ _ (by omega)
  have hk0 : ∀ j, j ≤ r → ∀ (S1 : St), FrC (put (put (put S 3 6 (nI fr)) 3 7 (nI w)) 3 8 (nI m)) S1 → (∀ c, c < m → ∀ k, k < w → S1.1 (96 + c) k = clu (itm S fr) n w m j c k) → Wp M_c_cluster 22 [.ref 3, .int (nI fr), .int (nI w), .int (nI m), .int (nI r), .int (nI j)] [] S1 (fun v9 S' => v9 = none ∧ FrD S S' ∧ CF S' n fr w m ∧ ∀ c, c < m → ∀ k, k < w → S'.1 (96 + c) k = clu (itm S fr) n w m r c k) := by
    refine loopUp (r) (fun j hk9 hn9 => ?_)
    intro S1 h1 h2
    have hF1 := hF0.keep h1
    refine w_iload d_c_cluster_22 rfl ?_
    refine w_iload d_c_cluster_24 rfl ?_
    refine w_icmp_geN 47 d_c_cluster_26 (by decide) (by omega) (by omega) (fun h26 => ?_) (fun h26 => ?_)
    · refine w_ret (st := []) rfl d_c_cluster_47 ?_
      obtain rfl : j = r := by omega
      exact ⟨rfl, h1.D hD0, hF1, h2⟩
    · refine w_aload_n d_c_cluster_29 rfl ?_
      refine w_callV0 (N := M_c_countMembers) d_c_cluster_30 LK_c_42 MF_c_countMembers MV_c_countMembers NP_c_countMembers (by decide) (by decide) (rfl) rfl rfl (Nat.le_of_ble_eq_true rfl) ?_
      refine Ev.mono (c_c_countMembers S1 n fr w m hF1) (fun r9 S2 hq => ?_)
      obtain ⟨rfl, f1, f2, f3⟩ := hq
      show Wp _ _ _ [] _ _
      have hM2 : ∀ c, c < m → S2.1 14 c = nI ((fun c => memC (nrC (cen S1) (itm S1 fr) w m) c n) c) ∧ (fun c => memC (nrC (cen S1) (itm S1 fr) w m) c n) c ≤ 24 := fun c hc => ⟨(f3 c hc).1, Nat.le_trans (memC_le _ _ _) hn24⟩
      refine w_aload_n d_c_cluster_33 rfl ?_
      refine w_callV0 (N := M_c_moveToMeans) d_c_cluster_34 LK_c_45 MF_c_moveToMeans MV_c_moveToMeans NP_c_moveToMeans (by decide) (by decide) (rfl) rfl rfl (Nat.le_of_ble_eq_true rfl) ?_
      refine Ev.mono (c_c_moveToMeans S2 n fr w m (hF1.keep f1) (fun c => memC (nrC (cen S1) (itm S1 fr) w m) c n) hM2) (fun r9 S3 hq => ?_)
      obtain ⟨rfl, g1, g2, g3⟩ := hq
      show Wp _ _ _ [] _ _
      refine w_aload_n d_c_cluster_37 rfl ?_
      refine w_callV0 (N := M_c_fillEmptyCentres) d_c_cluster_38 LK_c_48 MF_c_fillEmptyCentres MV_c_fillEmptyCentres NP_c_fillEmptyCentres (by decide) (by decide) (rfl) rfl rfl (Nat.le_of_ble_eq_true rfl) ?_
      refine Ev.mono (c_c_fillEmptyCentres S3 n fr w m ((hF1.keep f1).keep g1) (fun c => memC (nrC (cen S1) (itm S1 fr) w m) c n) (fun c hc => ⟨(g2 c).trans (hM2 c hc).1, (hM2 c hc).2⟩)) (fun r9 S4 hq => ?_)
      obtain ⟨rfl, k1, k2⟩ := hq
      show Wp _ _ _ [] _ _
      refine w_iincN d_c_cluster_41 rfl ?_
      refine w_goto 22 d_c_cluster_44 (by decide) ?_
      have e1 : ∀ c, c < m → ∀ k, k < w → S4.1 (96 + c) k = rnd (itm S1 fr) n w m (cen S1) c k := by
        intro c hc k hk
        rw [k2 c hc k hk]
        refine (fil_congr hm0 ?_ (fun _ _ => rfl) m (Nat.le_refl m)).1 c hc k hk
        intro c hc k hk
        show S3.1 (96 + c) k = _
        rw [g3 c hc k hk]
        unfold mvC mnC
        rw [(f3 c hc).2 k hk, f2 c (by omega) k]
        rfl
      refine hn9 h26 _ (((h1.tr f1).tr g1).tr k1) ?_
      intro c hc k hk
      rw [e1 c hc k hk]
      exact rnd_congr hm0 (fun i hi k hk => (itm_keep h1 (by omega) k).trans (hI0 i (by omega) k)) (fun c hc k hk => h2 c hc k hk) c hc k hk
  refine w_aload_n d_c_cluster_0 rfl ?_
  refine w_iload_n d_c_cluster_1 rfl ?_
  refine w_putIP d_c_cluster_2 FL_c_29 FW_3_6 (by decide) (rfl) (rfl) ?_
  refine w_aload_n d_c_cluster_5 rfl ?_
  refine w_iload_n d_c_cluster_6 rfl ?_
  refine w_putIP d_c_cluster_7 FL_c_33 FW_3_7 (by decide) (rfl) (rfl) ?_
  refine w_aload_n d_c_cluster_10 rfl ?_
  refine w_iload_n d_c_cluster_11 rfl ?_
  refine w_putIP d_c_cluster_12 FL_c_36 FW_3_8 (by decide) (rfl) (rfl) ?_
  refine w_aload_n d_c_cluster_15 rfl ?_
  refine w_callV0 (N := M_c_chooseCentres) d_c_cluster_16 LK_c_39 MF_c_chooseCentres MV_c_chooseCentres NP_c_chooseCentres (by decide) (by decide) (rfl) rfl rfl (Nat.le_of_ble_eq_true rfl) ?_
  refine Ev.mono (c_c_chooseCentres (put (put (put S 3 6 (nI fr)) 3 7 (nI w)) 3 8 (nI m)) n fr w m hF0) (fun r9 S1 hq => ?_)
  obtain ⟨rfl, h1, h2⟩ := hq
  show Wp _ _ _ [] _ _
  show Wp _ 19 _ _ _ _
  refine w_iconst (v := nI 0) d_c_cluster_19 (by decide +kernel) ?_
  refine w_istore d_c_cluster_20 (Nat.le_of_ble_eq_true rfl) ?_
  refine hk0 0 (by omega) _ h1 ?_
  intro c hc k hk
  rw [h2 c hc k hk]
  exact chC_congr hn0 (fun i hi k hk => hI0 i (by omega) k) m c k hk
set_option maxRecDepth 100000 in
set_option maxHeartbeats 4000000 in
theorem c_c_giveCentres (S : St) (n fr w m : Nat) (hF : CF S n fr w m) (g first : Nat) (hg1 : g < 204) (hg2 : kd g = 2) (hg3 : first + m ≤ ln g) (hg4 : 104 ≤ gbase g) (hrow : ∀ c, c < m → gbase g + (first + c) < 204 ∧ kd (gbase g + (first + c)) = 0 ∧ w ≤ ln (gbase g + (first + c))) : Ev M_c_giveCentres [.ref 3, .ref g, .int (nI first)] S (fun v9 S' => v9 = none ∧ S'.2 = S.2 ∧ (∀ a i, ¬ (gbase g + first ≤ a ∧ a < gbase g + first + m) → S'.1 a i = S.1 a i) ∧ ∀ c, c < m → ∀ k, k < w → S'.1 (gbase g + (first + c)) k = S.1 (96 + c) k) := by
  refine Ev.of MF_c_giveCentres (all_cat rfl) (Nat.le_of_ble_eq_true rfl) ?_
  show Wp M_c_giveCentres 0 [.ref 3, .ref g, .int (nI first), .null, .null] [] _ _
  have hF0 := hF
  obtain ⟨hn, hfr, hw, hm, hn0, hn24, hfw, hw0, hm0, hm4⟩ := hF
  have hk0 : ∀ c, c ≤ m → ∀ (S1 : St) (x4 : Value), S1.2 = S.2 → (∀ a i, ¬ (gbase g + first ≤ a ∧ a < gbase g + first + m) → S1.1 a i = S.1 a i) → (∀ d, d < c → ∀ j, j < w → S1.1 (gbase g + (first + d)) j = S.1 (96 + d) j) → Wp M_c_giveCentres 2 [.ref 3, .ref g, .int (nI first), .int (nI c), x4] [] S1 (fun v9 S' => v9 = none ∧ S'.2 = S.2 ∧ (∀ a i, ¬ (gbase g + first ≤ a ∧ a < gbase g + first + m) → S'.1 a i = S.1 a i) ∧ ∀ c, c < m → ∀ k, k < w → S'.1 (gbase g + (first + c)) k = S.1 (96 + c) k) := by
    refine loopUp (m) (fun c hk9 hn9 => ?_)
    intro S1 x4 h1 h2 h3
    refine w_iload_n d_c_giveCentres_2 rfl ?_
    refine w_aload_n d_c_giveCentres_3 rfl ?_
    refine w_getIV (v := (nI m)) d_c_giveCentres_4 FL_c_36 (by decide) (rfl) (rfl) ((h2 3 8 (by omega)).trans hm) ?_
    refine w_icmp_geN 51 d_c_giveCentres_7 (by decide) (by omega) (by omega) (fun h7 => ?_) (fun h7 => ?_)
    · refine w_ret (st := []) rfl d_c_giveCentres_51 ?_
      obtain rfl : c = m := by omega
      exact ⟨rfl, h1, h2, h3⟩
    · refine w_iconst (v := nI 0) d_c_giveCentres_10 (by decide +kernel) ?_
      refine w_istore d_c_giveCentres_11 (Nat.le_of_ble_eq_true rfl) ?_
      have hin : ∀ k, k ≤ w → ∀ (S2 : St), S2.2 = S.2 → (∀ a i, ¬ (gbase g + first ≤ a ∧ a < gbase g + first + m) → S2.1 a i = S.1 a i) → (∀ d, d < c → ∀ j, j < w → S2.1 (gbase g + (first + d)) j = S.1 (96 + d) j) → (∀ j, j < k → S2.1 (gbase g + (first + c)) j = S.1 (96 + c) j) → Wp M_c_giveCentres 13 [.ref 3, .ref g, .int (nI first), .int (nI c), .int (nI k)] [] S2 (fun v9 S' => v9 = none ∧ S'.2 = S.2 ∧ (∀ a i, ¬ (gbase g + first ≤ a ∧ a < gbase g + first + m) → S'.1 a i = S.1 a i) ∧ ∀ c, c < m → ∀ k, k < w → S'.1 (gbase g + (first + c)) k = S.1 (96 + c) k) := by
        refine loopUp (w) (fun k hk8 hn8 => ?_)
        intro S2 g1 g2 g3 g4
        refine w_iload d_c_giveCentres_13 rfl ?_
        refine w_aload_n d_c_giveCentres_15 rfl ?_
        refine w_getIV (v := (nI w)) d_c_giveCentres_16 FL_c_33 (by decide) (rfl) (rfl) ((g2 3 7 (by omega)).trans hw) ?_
        refine w_icmp_geN 45 d_c_giveCentres_19 (by decide) (by omega) (by omega) (fun h19 => ?_) (fun h19 => ?_)
        · refine w_iincN d_c_giveCentres_45 rfl ?_
          refine w_goto 2 d_c_giveCentres_48 (by decide) ?_
          have hkw : k = w := by omega
          refine hn9 h7 _ _ g1 g2 ?_
          exact lt_s g3 (fun j hj => g4 j (by omega))
        · refine w_aload_n d_c_giveCentres_22 rfl ?_
          refine w_iload_n d_c_giveCentres_23 rfl ?_
          refine w_iload_n d_c_giveCentres_24 rfl ?_
          refine w_iaddN d_c_giveCentres_25 ?_
          refine w_aaldN d_c_giveCentres_26 (hg1) (hg2) (by omega) ?_
          refine w_iload d_c_giveCentres_27 rfl ?_
          refine w_aload_n d_c_giveCentres_29 rfl ?_
          refine w_getR d_c_giveCentres_30 FL_c_16 (by decide) (rfl) (rfl) ?_
          refine w_iload_n d_c_giveCentres_33 rfl ?_
          refine w_aaldN d_c_giveCentres_34 (by decide) (rfl) (show c < 4 from (by omega)) ?_
          show Wp _ _ _ (.ref (96 + c) :: _) _ _
          refine w_iload d_c_giveCentres_35 rfl ?_
          show Wp _ 37 _ _ _ _
          refine w_ialdNV (v := ((S.1 (96 + c) k))) d_c_giveCentres_37 (by omega) (kd_row96 (by omega)) (show k < ln (96 + c) by rw [ln_row96 (by omega)]; omega) (g2 _ _ (by omega)) ?_
          refine w_iastNP d_c_giveCentres_38 ((hrow c h7).1) ((hrow c h7).2.1) (by have := (hrow c h7).2.2; omega) ?_
          refine w_iincN d_c_giveCentres_39 rfl ?_
          refine w_goto 13 d_c_giveCentres_42 (by decide) ?_
          refine hn8 h19 _ g1 (fun a i ha => by rw [put_ne (by omega)]; exact g2 a i ha) (fun d hd j hj => by rw [put_ne (by omega)]; exact g3 d hd j hj) ?_
          intro j hj
          by_cases hjk : j = k
          · rw [hjk, put_at]
          · rw [put_ne (by omega)]
            exact g4 j (by omega)
      exact hin 0 (by omega) _ h1 h2 h3 lt_0
  refine w_iconst (v := nI 0) d_c_giveCentres_0 (by decide +kernel) ?_
  refine w_istore_n d_c_giveCentres_1 (Nat.le_of_ble_eq_true rfl) ?_
  exact hk0 0 (by omega) _ _ rfl (fun _ _ _ => rfl) lt_0
def minI (f : Nat → Int32) : Nat → Int32
  | 0 => f 0
  | i + 1 => if f i < minI f i then f i else minI f i
def maxI (f : Nat → Int32) : Nat → Int32
  | 0 => f 0
  | i + 1 => if maxI f i < f i then f i else maxI f i
theorem minI_1 (f : Nat → Int32) : minI f 1 = f 0 := by show (if f 0 < f 0 then f 0 else f 0) = f 0; split <;> rfl
theorem maxI_1 (f : Nat → Int32) : maxI f 1 = f 0 := by show (if f 0 < f 0 then f 0 else f 0) = f 0; split <;> rfl
set_option maxRecDepth 100000 in
set_option maxHeartbeats 4000000 in
theorem c_c_least (S : St) (n q : Nat) (hn : S.1 3 5 = nI n) (hn0 : 0 < n) (hn24 : n ≤ 24) (hq : q < 4) : Ev M_c_least [.ref 3, .int (nI q)] S (fun v9 S' => v9 = some (.int (minI (fun i => S.1 (72 + i) q) n)) ∧ S' = S) := by
  refine Ev.of MF_c_least (all_cat rfl) (Nat.le_of_ble_eq_true rfl) ?_
  show Wp M_c_least 0 [.ref 3, .int (nI q), .null, .null] [] _ _
  have hk0 : ∀ i, i ≤ n → ∀ (b : Int32), 1 ≤ i → b = minI (fun i => S.1 (72 + i) q) i → Wp M_c_least 11 [.ref 3, .int (nI q), .int b, .int (nI i)] [] S (fun v9 S' => v9 = some (.int (minI (fun i => S.1 (72 + i) q) n)) ∧ S' = S) := by
    refine loopUp (n) (fun i hk9 hn9 => ?_)
    intro b hi1 hb
    refine w_iload_n d_c_least_11 rfl ?_
    refine w_aload_n d_c_least_12 rfl ?_
    refine w_getIV (v := (nI n)) d_c_least_13 FL_c_51 (by decide) (rfl) (rfl) (hn) ?_
    refine w_icmp_geN 38 d_c_least_16 (by decide) (by omega) (by omega) (fun h16 => ?_) (fun h16 => ?_)
    · refine w_iload_n d_c_least_38 rfl ?_
      refine w_iret (st := []) rfl d_c_least_39 ?_
      obtain rfl : i = n := by omega
      exact ⟨by rw [hb], rfl⟩
    · refine w_iload_n d_c_least_19 rfl ?_
      refine w_aload_n d_c_least_20 rfl ?_
      refine w_getR d_c_least_21 FL_c_11 (by decide) (rfl) (rfl) ?_
      refine w_iload_n d_c_least_24 rfl ?_
      refine w_aaldN d_c_least_25 (by decide) (rfl) (show i < 24 from (by omega)) ?_
      show Wp _ _ _ (.ref (72 + i) :: _) _ _
      refine w_iload_n d_c_least_26 rfl ?_
      refine w_ialdN d_c_least_27 (by omega) (kd_row72 (by omega)) (show q < ln (72 + i) by rw [ln_row72 (by omega)]; omega) ?_
      refine w_callS2 (N := M_j_min) d_c_least_28 LK_c_54 MF_j_min MS_j_min NP_j_min (by decide) rfl (Nat.le_of_ble_eq_true rfl) ?_
      refine Ev.det (c_j_min _ _ _) ?_
      refine w_istore_n d_c_least_31 (Nat.le_of_ble_eq_true rfl) ?_
      refine w_iincN d_c_least_32 rfl ?_
      refine w_goto 11 d_c_least_35 (by decide) ?_
      show Wp _ 11 _ _ _ _
      exact hn9 h16 _ (by omega) (by rw [hb]; rfl)
  refine w_aload_n d_c_least_0 rfl ?_
  refine w_getR d_c_least_1 FL_c_11 (by decide) (rfl) (rfl) ?_
  refine w_iconst (v := nI 0) d_c_least_4 (by decide +kernel) ?_
  refine w_aaldN d_c_least_5 (by decide) (rfl) (show 0 < 24 from (by omega)) ?_
  show Wp _ _ _ (.ref (72 + 0) :: _) _ _
  refine w_iload_n d_c_least_6 rfl ?_
  refine w_ialdN d_c_least_7 (by omega) (kd_row72 (by omega)) (show q < ln (72 + 0) by rw [ln_row72 (by omega)]; omega) ?_
  refine w_istore_n d_c_least_8 (Nat.le_of_ble_eq_true rfl) ?_
  refine w_iconst (v := nI 1) d_c_least_9 (by decide +kernel) ?_
  refine w_istore_n d_c_least_10 (Nat.le_of_ble_eq_true rfl) ?_
  exact hk0 1 (by omega) _ (Nat.le_refl 1) (minI_1 (fun i => S.1 (72 + i) q)).symm
set_option maxRecDepth 100000 in
set_option maxHeartbeats 4000000 in
theorem c_c_greatest (S : St) (n q : Nat) (hn : S.1 3 5 = nI n) (hn0 : 0 < n) (hn24 : n ≤ 24) (hq : q < 4) : Ev M_c_greatest [.ref 3, .int (nI q)] S (fun v9 S' => v9 = some (.int (maxI (fun i => S.1 (72 + i) q) n)) ∧ S' = S) := by
  refine Ev.of MF_c_greatest (all_cat rfl) (Nat.le_of_ble_eq_true rfl) ?_
  show Wp M_c_greatest 0 [.ref 3, .int (nI q), .null, .null] [] _ _
  have hk0 : ∀ i, i ≤ n → ∀ (b : Int32), 1 ≤ i → b = maxI (fun i => S.1 (72 + i) q) i → Wp M_c_greatest 11 [.ref 3, .int (nI q), .int b, .int (nI i)] [] S (fun v9 S' => v9 = some (.int (maxI (fun i => S.1 (72 + i) q) n)) ∧ S' = S) := by
    refine loopUp (n) (fun i hk9 hn9 => ?_)
    intro b hi1 hb
    refine w_iload_n d_c_greatest_11 rfl ?_
    refine w_aload_n d_c_greatest_12 rfl ?_
    refine w_getIV (v := (nI n)) d_c_greatest_13 FL_c_51 (by decide) (rfl) (rfl) (hn) ?_
    refine w_icmp_geN 38 d_c_greatest_16 (by decide) (by omega) (by omega) (fun h16 => ?_) (fun h16 => ?_)
    · refine w_iload_n d_c_greatest_38 rfl ?_
      refine w_iret (st := []) rfl d_c_greatest_39 ?_
      obtain rfl : i = n := by omega
      exact ⟨by rw [hb], rfl⟩
    · refine w_iload_n d_c_greatest_19 rfl ?_
      refine w_aload_n d_c_greatest_20 rfl ?_
      refine w_getR d_c_greatest_21 FL_c_11 (by decide) (rfl) (rfl) ?_
      refine w_iload_n d_c_greatest_24 rfl ?_
      refine w_aaldN d_c_greatest_25 (by decide) (rfl) (show i < 24 from (by omega)) ?_
      show Wp _ _ _ (.ref (72 + i) :: _) _ _
      refine w_iload_n d_c_greatest_26 rfl ?_
      refine w_ialdN d_c_greatest_27 (by omega) (kd_row72 (by omega)) (show q < ln (72 + i) by rw [ln_row72 (by omega)]; omega) ?_
      refine w_callS2 (N := M_j_max) d_c_greatest_28 LK_c_60 MF_j_max MS_j_max NP_j_max (by decide) rfl (Nat.le_of_ble_eq_true rfl) ?_
      refine Ev.det (c_j_max _ _ _) ?_
      refine w_istore_n d_c_greatest_31 (Nat.le_of_ble_eq_true rfl) ?_
      refine w_iincN d_c_greatest_32 rfl ?_
      refine w_goto 11 d_c_greatest_35 (by decide) ?_
      show Wp _ 11 _ _ _ _
      exact hn9 h16 _ (by omega) (by rw [hb]; rfl)
  refine w_aload_n d_c_greatest_0 rfl ?_
  refine w_getR d_c_greatest_1 FL_c_11 (by decide) (rfl) (rfl) ?_
  refine w_iconst (v := nI 0) d_c_greatest_4 (by decide +kernel) ?_
  refine w_aaldN d_c_greatest_5 (by decide) (rfl) (show 0 < 24 from (by omega)) ?_
  show Wp _ _ _ (.ref (72 + 0) :: _) _ _
  refine w_iload_n d_c_greatest_6 rfl ?_
  refine w_ialdN d_c_greatest_7 (by omega) (kd_row72 (by omega)) (show q < ln (72 + 0) by rw [ln_row72 (by omega)]; omega) ?_
  refine w_istore_n d_c_greatest_8 (Nat.le_of_ble_eq_true rfl) ?_
  refine w_iconst (v := nI 1) d_c_greatest_9 (by decide +kernel) ?_
  refine w_istore_n d_c_greatest_10 (Nat.le_of_ble_eq_true rfl) ?_
  exact hk0 1 (by omega) _ (Nat.le_refl 1) (maxI_1 (fun i => S.1 (72 + i) q)).symm
def sprd (lo hi : Int32) (nc j : Nat) : Int32 := if j = 0 then lo else lo + (hi - lo) * nI j / nI (nc - 1)
set_option maxRecDepth 100000 in
set_option maxHeartbeats 4000000 in
theorem c_z_spreadWords (S : St) (part nc : Nat) (lo hi : Int32) (hc : S.1 4 6 = nI nc) (hc1 : 0 < nc) (hc4 : nc ≤ 4) (hp : part < 4) : Ev M_z_spreadWords [.ref 4, .int (nI part), .int lo, .int hi] S (fun v9 S' => v9 = none ∧ S' = setCol S (108 + part * 4) 0 (sprd lo hi nc) nc) := by
  refine Ev.of MF_z_spreadWords (all_cat rfl) (Nat.le_of_ble_eq_true rfl) ?_
  show Wp M_z_spreadWords 0 [.ref 4, .int (nI part), .int lo, .int hi, .null] [] _ _
  have hk0 : ∀ j, j ≤ nc → ∀ (S1 : St), 1 ≤ j → S1 = setCol S (108 + part * 4) 0 (sprd lo hi nc) j → Wp M_z_spreadWords 16 [.ref 4, .int (nI part), .int lo, .int hi, .int (nI j)] [] S1 (fun v9 S' => v9 = none ∧ S' = setCol S (108 + part * 4) 0 (sprd lo hi nc) nc) := by
    refine loopUp (nc) (fun j hk9 hn9 => ?_)
    intro S1 hj1 hS
    have e4 : ∀ i, S1.1 4 i = S.1 4 i := fun i => by rw [hS, setCol_ne (by omega)]
    refine w_iload d_z_spreadWords_16 rfl ?_
    refine w_aload_n d_z_spreadWords_18 rfl ?_
    refine w_getIV (v := (nI nc)) d_z_spreadWords_19 FL_z_34 (by decide) (rfl) (rfl) ((e4 6).trans hc) ?_
    refine w_icmp_geN 59 d_z_spreadWords_22 (by decide) (by omega) (by omega) (fun h22 => ?_) (fun h22 => ?_)
    · refine w_ret (st := []) rfl d_z_spreadWords_59 ?_
      obtain rfl : j = nc := by omega
      exact ⟨rfl, hS⟩
    · refine w_aload_n d_z_spreadWords_25 rfl ?_
      refine w_getR d_z_spreadWords_26 FL_z_16 (by decide) (rfl) (rfl) ?_
      refine w_iload_n d_z_spreadWords_29 rfl ?_
      refine w_iload d_z_spreadWords_30 rfl ?_
      refine w_callS2 (N := M_q_wordRow) d_z_spreadWords_32 LK_z_52 MF_q_wordRow MS_q_wordRow NP_q_wordRow (by decide) rfl (Nat.le_of_ble_eq_true rfl) ?_
      refine Ev.det (c_q_wordRow _ _ _) ?_
      refine w_aaldN d_z_spreadWords_35 (by decide) (rfl) (show part * 4 + j < 16 from (by omega)) ?_
      show Wp _ _ _ (.ref (108 + (part * 4 + j)) :: _) _ _
      refine w_iconst (v := nI 0) d_z_spreadWords_36 (by decide +kernel) ?_
      refine w_iload_n d_z_spreadWords_37 rfl ?_
      refine w_iload_n d_z_spreadWords_38 rfl ?_
      refine w_iload_n d_z_spreadWords_39 rfl ?_
      refine w_isub d_z_spreadWords_40 ?_
      show Wp _ 41 _ _ _ _
      refine w_iload d_z_spreadWords_41 rfl ?_
      refine w_imul d_z_spreadWords_43 ?_
      refine w_aload_n d_z_spreadWords_44 rfl ?_
      refine w_getIV (v := (nI nc)) d_z_spreadWords_45 FL_z_34 (by decide) (rfl) (rfl) ((e4 6).trans hc) ?_
      refine w_iconst (v := nI 1) d_z_spreadWords_48 (by decide +kernel) ?_
      refine w_isubN d_z_spreadWords_49 (by omega) ?_
      refine w_idiv d_z_spreadWords_50 (nI_ne0 (by omega) (by omega)) ?_
      refine w_iadd d_z_spreadWords_51 ?_
      refine w_iastNP d_z_spreadWords_52 (by omega) (kd_row108 (by omega)) (show 0 < ln (108 + (part * 4 + j)) by rw [ln_row108 (by omega)]; omega) ?_
      refine w_iincN d_z_spreadWords_53 rfl ?_
      refine w_goto 16 d_z_spreadWords_56 (by decide) ?_
      refine hn9 h22 _ (by omega) ?_
      rw [hS, ← Nat.add_assoc]
      refine setCol_s ?_
      unfold sprd
      rw [if_neg (by omega)]
  refine w_aload_n d_z_spreadWords_0 rfl ?_
  refine w_getR d_z_spreadWords_1 FL_z_16 (by decide) (rfl) (rfl) ?_
  refine w_iload_n d_z_spreadWords_4 rfl ?_
  refine w_iconst (v := nI 0) d_z_spreadWords_5 (by decide +kernel) ?_
  refine w_callS2 (N := M_q_wordRow) d_z_spreadWords_6 LK_z_52 MF_q_wordRow MS_q_wordRow NP_q_wordRow (by decide) rfl (Nat.le_of_ble_eq_true rfl) ?_
  refine Ev.det (c_q_wordRow _ _ _) ?_
  refine w_aaldN d_z_spreadWords_9 (by decide) (rfl) (show part * 4 + 0 < 16 from (by omega)) ?_
  show Wp _ _ _ (.ref (108 + (part * 4 + 0)) :: _) _ _
  refine w_iconst (v := nI 0) d_z_spreadWords_10 (by decide +kernel) ?_
  refine w_iload_n d_z_spreadWords_11 rfl ?_
  refine w_iastNP d_z_spreadWords_12 (by omega) (kd_row108 (by omega)) (show 0 < ln (108 + (part * 4 + 0)) by rw [ln_row108 (by omega)]; omega) ?_
  refine w_iconst (v := nI 1) d_z_spreadWords_13 (by decide +kernel) ?_
  refine w_istore d_z_spreadWords_14 (Nat.le_of_ble_eq_true rfl) ?_
  show Wp _ 16 _ _ _ _
  refine hk0 1 (by omega) _ (Nat.le_refl 1) ?_
  rw [← setCol_s (n := 0) (f := sprd lo hi nc) (by unfold sprd; rw [if_pos rfl]), setCol_0]
  rfl
end
section
/-! The finder: what is looked through, and the sorting by insertion. -/
def bef (d p e r : Int32) : Bool := decide (d < e ∨ d = e ∧ p < r)
theorem bef_trans {d p e r g s : Int32} (h1 : bef d p e r = true) (h2 : bef e r g s = true) : bef d p g s = true := by
  have k1 := of_decide_eq_true h1
  have k2 := of_decide_eq_true h2
  clear h1 h2
  refine decide_eq_true ?_
  rcases k1 with z1 | ⟨e1, z1⟩ <;> rcases k2 with z2 | ⟨e2, z2⟩
  · exact Or.inl (Int32.lt_trans z1 z2)
  · exact Or.inl (e2 ▸ z1)
  · exact Or.inl (e1 ▸ z2)
  · exact Or.inr ⟨e1.trans e2, Int32.lt_trans z1 z2⟩
theorem bef_total {d p e r : Int32} (hne : p ≠ r) (h : bef d p e r = false) : bef e r d p = true := by
  have h := of_decide_eq_false h
  refine decide_eq_true ?_
  by_cases hde : d = e
  · subst hde
    refine Or.inr ⟨rfl, ?_⟩
    by_cases q : r < p
    · exact q
    · exact absurd (Or.inr ⟨rfl, by
        rcases Int32.le_iff_lt_or_eq.mp (Int32.not_lt.mp q) with z | z
        · exact z
        · exact absurd z hne⟩) h
  · refine Or.inl ?_
    by_cases q : e < d
    · exact q
    · rcases Int32.le_iff_lt_or_eq.mp (Int32.not_lt.mp q) with z | z
      · exact absurd (Or.inl z) h
      · exact absurd z hde
theorem bef_irr {d p : Int32} : bef d p d p = false := decide_eq_false (fun q => q.elim (fun z => Int32.lt_irrefl z) (fun z => Int32.lt_irrefl z.2))
/-- the place i goes to t, the places from t on move up -/
def insF {α : Type} (a : Nat → α) (i t : Nat) : Nat → α := fun j => if j = t then a i else if t < j ∧ j ≤ i then a (j - 1) else a j
theorem insF_t {α : Type} {a : Nat → α} {i t j : Nat} (h : j = t) : insF a i t j = a i := if_pos h
theorem insF_m {α : Type} {a : Nat → α} {i t j : Nat} (h : t < j ∧ j ≤ i) : insF a i t j = a (j - 1) := by unfold insF; rw [if_neg (by omega), if_pos h]
theorem insF_o {α : Type} {a : Nat → α} {i t j : Nat} (h : j ≠ t) (h2 : ¬ (t < j ∧ j ≤ i)) : insF a i t j = a j := by unfold insF; rw [if_neg h, if_neg h2]
/-- s is a way to put the numbers below n in order -/
def Prm (s : Nat → Nat) (n : Nat) : Prop := (∀ j, j < n → s j < n) ∧ ∀ i j, i < n → j < n → s i = s j → i = j
theorem Prm.id (n : Nat) : Prm (fun j => j) n := ⟨fun _ h => h, fun _ _ _ _ h => h⟩
theorem Prm.ins {s : Nat → Nat} {n i t : Nat} (h : Prm s n) (hi : i < n) (ht : t ≤ i) : Prm (insF s i t) n := by
  have key : ∀ j, j < n → ∃ q, q < n ∧ insF s i t j = s q ∧ (j = t ∧ q = i ∨ t < j ∧ j ≤ i ∧ q = j - 1 ∨ j ≠ t ∧ ¬ (t < j ∧ j ≤ i) ∧ q = j) := by
    intro j hj
    unfold insF
    by_cases h1 : j = t
    · exact ⟨i, hi, if_pos h1, Or.inl ⟨h1, rfl⟩⟩
    · by_cases h2 : t < j ∧ j ≤ i
      · exact ⟨j - 1, by omega, by rw [if_neg h1, if_pos h2], Or.inr (Or.inl ⟨h2.1, h2.2, rfl⟩)⟩
      · exact ⟨j, hj, by rw [if_neg h1, if_neg h2], Or.inr (Or.inr ⟨h1, h2, rfl⟩)⟩
  refine ⟨fun j hj => ?_, fun a b ha hb hab => ?_⟩
  · obtain ⟨q, hq, e, -⟩ := key j hj
    rw [e]
    exact h.1 q hq
  · obtain ⟨q, hq, e, c1⟩ := key a ha
    obtain ⟨r, hr, e2, c2⟩ := key b hb
    rw [e, e2] at hab
    have := h.2 q r hq hr hab
    omega
theorem insF_comp {α : Type} (a : Nat → α) (s : Nat → Nat) (i t j : Nat) : insF (fun j => a (s j)) i t j = a (insF s i t j) := by
  unfold insF
  by_cases h1 : j = t
  · rw [if_pos h1, if_pos h1]
  · rw [if_neg h1, if_neg h1]
    by_cases h2 : t < j ∧ j ≤ i
    · rw [if_pos h2, if_pos h2]
    · rw [if_neg h2, if_neg h2]
/-- what is sorted stays sorted with one more -/
theorem srt_ins {d p : Nat → Int32} {i t : Nat} (ht : t ≤ i) (hs : ∀ a b, a < b → b < i → bef (d a) (p a) (d b) (p b) = true) (hne : ∀ a, a < i → p i ≠ p a) (hgt : ∀ a, t ≤ a → a < i → bef (d i) (p i) (d a) (p a) = true) (hle : 0 < t → bef (d i) (p i) (d (t - 1)) (p (t - 1)) = false) :
    ∀ a b, a < b → b < i + 1 → bef (insF d i t a) (insF p i t a) (insF d i t b) (insF p i t b) = true := by
  have hlo : ∀ a, a < t → bef (d a) (p a) (d i) (p i) = true := by
    intro a ha
    have h1 := bef_total (hne (t - 1) (by omega)) (hle (by omega))
    by_cases hat : a = t - 1
    · rw [hat]; exact h1
    · exact bef_trans (hs a (t - 1) (by omega) (by omega)) h1
  intro a b hab hb
  by_cases a1 : a = t
  · rw [insF_t a1, insF_t a1, insF_m (by omega), insF_m (by omega)]
    exact hgt _ (by omega) (by omega)
  · by_cases a2 : t < a ∧ a ≤ i
    · rw [insF_m a2, insF_m a2, insF_m (by omega), insF_m (by omega)]
      exact hs _ _ (by omega) (by omega)
    · rw [insF_o a1 a2, insF_o a1 a2]
      by_cases b1 : b = t
      · rw [insF_t b1, insF_t b1]
        exact hlo a (by omega)
      · by_cases b2 : t < b ∧ b ≤ i
        · rw [insF_m b2, insF_m b2]
          exact hs _ _ (by omega) (by omega)
        · rw [insF_o b1 b2, insF_o b1 b2]
          exact hs _ _ (by omega) (by omega)
set_option maxRecDepth 100000 in
set_option maxHeartbeats 4000000 in
theorem c_f_hasResult (S : St) (v : Int32) : Ev M_f_hasResult [.ref 6, .int v] S (fun v9 S' => v9 = some (.int (bI (decide (nI 0 ≤ v ∧ v ≤ S.1 6 8 - nI 1)))) ∧ S' = S) := by
  refine Ev.of MF_f_hasResult (all_cat rfl) (Nat.le_of_ble_eq_true rfl) ?_
  show Wp M_f_hasResult 0 [.ref 6, .int v] [] _ _
  refine w_iload_n d_f_hasResult_0 rfl ?_
  refine w_iconst (v := nI 0) d_f_hasResult_1 (by decide +kernel) ?_
  refine w_aload_n d_f_hasResult_2 rfl ?_
  refine w_getI d_f_hasResult_3 FL_f_34 (by decide) (rfl) (rfl) ?_
  refine w_iconst (v := nI 1) d_f_hasResult_6 (by decide +kernel) ?_
  refine w_isub d_f_hasResult_7 ?_
  refine w_callS3 (N := M_q_isWithin) d_f_hasResult_8 LK_f_37 MF_q_isWithin MS_q_isWithin NP_q_isWithin (by decide) rfl (Nat.le_of_ble_eq_true rfl) ?_
  refine Ev.det (c_q_isWithin _ _ _ _) ?_
  refine w_zret (st := []) rfl d_f_hasResult_11 (bI_01 _) ?_
  exact ⟨rfl, rfl⟩
set_option maxRecDepth 100000 in
set_option maxHeartbeats 4000000 in
theorem c_f_isBefore (S : St) (d p : Int32) (o : Nat) (ho : o < 20) : Ev M_f_isBefore [.ref 6, .int d, .int p, .int (nI o)] S (fun v9 S' => v9 = some (.int (bI (bef d p (S.1 23 o) (S.1 22 o)))) ∧ S' = S) := by
  refine Ev.of MF_f_isBefore (all_cat rfl) (Nat.le_of_ble_eq_true rfl) ?_
  show Wp M_f_isBefore 0 [.ref 6, .int d, .int p, .int (nI o)] [] _ _
  refine w_iload_n d_f_isBefore_0 rfl ?_
  refine w_aload_n d_f_isBefore_1 rfl ?_
  refine w_getR d_f_isBefore_2 FL_f_21 (by decide) (rfl) (rfl) ?_
  refine w_iload_n d_f_isBefore_5 rfl ?_
  refine w_ialdN d_f_isBefore_6 (by decide) (rfl) (show o < 20 from (by omega)) ?_
  refine w_icmp_lt 30 d_f_isBefore_7 (by decide) (fun h7 => ?_) (fun h7 => ?_)
  · refine w_iconst (v := nI 1) d_f_isBefore_30 (by decide +kernel) ?_
    refine w_goto 35 d_f_isBefore_31 (by decide) ?_
    refine w_zret (st := []) rfl d_f_isBefore_35 (by decide) ?_
    exact ⟨rb1 (decide_eq_true (Or.inl h7)), rfl⟩
  · refine w_iload_n d_f_isBefore_10 rfl ?_
    refine w_aload_n d_f_isBefore_11 rfl ?_
    refine w_getR d_f_isBefore_12 FL_f_21 (by decide) (rfl) (rfl) ?_
    refine w_iload_n d_f_isBefore_15 rfl ?_
    refine w_ialdN d_f_isBefore_16 (by decide) (rfl) (show o < 20 from (by omega)) ?_
    refine w_icmp_ne 34 d_f_isBefore_17 (by decide) (fun h17 => ?_) (fun h17 => ?_)
    · refine w_iconst (v := nI 0) d_f_isBefore_34 (by decide +kernel) ?_
      refine w_zret (st := []) rfl d_f_isBefore_35 (by decide) ?_
      exact ⟨rb0 (decide_eq_false (fun q => q.elim h7 (fun q => h17 q.1))), rfl⟩
    · refine w_iload_n d_f_isBefore_20 rfl ?_
      refine w_aload_n d_f_isBefore_21 rfl ?_
      refine w_getR d_f_isBefore_22 FL_f_18 (by decide) (rfl) (rfl) ?_
      refine w_iload_n d_f_isBefore_25 rfl ?_
      refine w_ialdN d_f_isBefore_26 (by decide) (rfl) (show o < 20 from (by omega)) ?_
      refine w_icmp_ge 34 d_f_isBefore_27 (by decide) (fun h27 => ?_) (fun h27 => ?_)
      · refine w_iconst (v := nI 0) d_f_isBefore_34 (by decide +kernel) ?_
        refine w_zret (st := []) rfl d_f_isBefore_35 (by decide) ?_
        exact ⟨rb0 (decide_eq_false (fun q => q.elim h7 (fun q => absurd q.2 (Int32.not_lt.mpr h27)))), rfl⟩
      · refine w_iconst (v := nI 1) d_f_isBefore_30 (by decide +kernel) ?_
        refine w_goto 35 d_f_isBefore_31 (by decide) ?_
        refine w_zret (st := []) rfl d_f_isBefore_35 (by decide) ?_
        exact ⟨rb1 (decide_eq_true (Or.inr ⟨h17, Int32.not_le.mp h27⟩)), rfl⟩
set_option maxRecDepth 100000 in
set_option maxHeartbeats 4000000 in
theorem c_f_sort (S : St) (n : Nat) (hn20 : n ≤ 20) (hne : ∀ a b, a < n → b < n → a ≠ b → S.1 22 a ≠ S.1 22 b) : Ev M_f_sort [.ref 6, .int (nI n)] S (fun v9 S' => v9 = none ∧ S'.2 = S.2 ∧ (∀ a i, ¬ ((a = 22 ∨ a = 23) ∧ i < n) → S'.1 a i = S.1 a i) ∧ ∃ s, Prm s n ∧ (∀ j, j < n → S'.1 22 j = S.1 22 (s j) ∧ S'.1 23 j = S.1 23 (s j)) ∧ ∀ a b, a < b → b < n → bef (S'.1 23 a) (S'.1 22 a) (S'.1 23 b) (S'.1 22 b) = true) := by
  refine Ev.of MF_f_sort (all_cat rfl) (Nat.le_of_ble_eq_true rfl) ?_
  show Wp M_f_sort 0 [.ref 6, .int (nI n), .null, .null, .null, .null] [] _ _
  have hk0 : ∀ i, i ≤ n → ∀ (S1 : St) (x3 : Value) (x4 : Value) (x5 : Value), 1 ≤ i → S1.2 = S.2 → (∀ a i, ¬ ((a = 22 ∨ a = 23) ∧ i < n) → S1.1 a i = S.1 a i) → ∀ s : Nat → Nat, Prm s n → (∀ j, j < n → S1.1 22 j = S.1 22 (s j) ∧ S1.1 23 j = S.1 23 (s j)) → (∀ a b, a < b → b < i → bef (S1.1 23 a) (S1.1 22 a) (S1.1 23 b) (S1.1 22 b) = true) → Wp M_f_sort 2 [.ref 6, .int (nI n), .int (nI i), x3, x4, x5] [] S1 (fun v9 S' => v9 = none ∧ S'.2 = S.2 ∧ (∀ a i, ¬ ((a = 22 ∨ a = 23) ∧ i < n) → S'.1 a i = S.1 a i) ∧ ∃ s, Prm s n ∧ (∀ j, j < n → S'.1 22 j = S.1 22 (s j) ∧ S'.1 23 j = S.1 23 (s j)) ∧ ∀ a b, a < b → b < n → bef (S'.1 23 a) (S'.1 22 a) (S'.1 23 b) (S'.1 22 b) = true) := by
    refine loopUp (n) (fun i hk9 hn9 => ?_)
    intro S1 x3 x4 x5 hi1 h1 h2 s hs1 hs2 hs3
    refine w_iload_n d_f_sort_2 rfl ?_
    refine w_iload_n d_f_sort_3 rfl ?_
    refine w_icmp_geN 105 d_f_sort_4 (by decide) (by omega) (by omega) (fun h4 => ?_) (fun h4 => ?_)
    · refine w_ret (st := []) rfl d_f_sort_105 ?_
      have hin9 : i = n := by omega
      exact ⟨rfl, h1, h2, s, hs1, hs2, fun a b hab hb => hs3 a b hab (by omega)⟩
    · refine w_aload_n d_f_sort_7 rfl ?_
      refine w_getR d_f_sort_8 FL_f_18 (by decide) (rfl) (rfl) ?_
      refine w_iload_n d_f_sort_11 rfl ?_
      refine w_ialdN d_f_sort_12 (by decide) (rfl) (show i < 20 from (by omega)) ?_
      refine w_istore_n d_f_sort_13 (Nat.le_of_ble_eq_true rfl) ?_
      refine w_aload_n d_f_sort_14 rfl ?_
      refine w_getR d_f_sort_15 FL_f_21 (by decide) (rfl) (rfl) ?_
      refine w_iload_n d_f_sort_18 rfl ?_
      refine w_ialdN d_f_sort_19 (by decide) (rfl) (show i < 20 from (by omega)) ?_
      refine w_istore d_f_sort_20 (Nat.le_of_ble_eq_true rfl) ?_
      refine w_iload_n d_f_sort_22 rfl ?_
      show Wp _ 23 _ _ _ _
      refine w_istore d_f_sort_23 (Nat.le_of_ble_eq_true rfl) ?_
      have hin : ∀ t, ∀ (S2 : St), t ≤ i → S2.2 = S.2 → (∀ a i, ¬ ((a = 22 ∨ a = 23) ∧ i < n) → S2.1 a i = S.1 a i) → (∀ a, a = 22 ∨ a = 23 → ∀ j, j < n → S2.1 a j = if t < j ∧ j ≤ i then S1.1 a (j - 1) else S1.1 a j) → (∀ a, t ≤ a → a < i → bef (S1.1 23 i) (S1.1 22 i) (S1.1 23 a) (S1.1 22 a) = true) → Wp M_f_sort 25 [.ref 6, .int (nI n), .int (nI i), .int ((S1.1 22 i)), .int ((S1.1 23 i)), .int (nI t)] [] S2 (fun v9 S' => v9 = none ∧ S'.2 = S.2 ∧ (∀ a i, ¬ ((a = 22 ∨ a = 23) ∧ i < n) → S'.1 a i = S.1 a i) ∧ ∃ s, Prm s n ∧ (∀ j, j < n → S'.1 22 j = S.1 22 (s j) ∧ S'.1 23 j = S.1 23 (s j)) ∧ ∀ a b, a < b → b < n → bef (S'.1 23 a) (S'.1 22 a) (S'.1 23 b) (S'.1 22 b) = true) := by
        refine loopDown (fun t hn8 => ?_)
        intro S2 gti g1 g2 g3 g4
        refine w_iload d_f_sort_25 rfl ?_
        refine w_if_leN 82 d_f_sort_27 (by decide) (by omega) (fun h27 => ?_) (fun h27 => ?_)
        · refine w_aload_n d_f_sort_82 rfl ?_
          refine w_getR d_f_sort_83 FL_f_18 (by decide) (rfl) (rfl) ?_
          refine w_iload d_f_sort_86 rfl ?_
          refine w_iload_n d_f_sort_88 rfl ?_
          refine w_iastNP d_f_sort_89 (by decide) (rfl) (show t < 20 from (by omega)) ?_
          refine w_aload_n d_f_sort_90 rfl ?_
          refine w_getR d_f_sort_91 FL_f_21 (by decide) (rfl) (rfl) ?_
          refine w_iload d_f_sort_94 rfl ?_
          refine w_iload d_f_sort_96 rfl ?_
          refine w_iastNP d_f_sort_98 (by decide) (rfl) (show t < 20 from (by omega)) ?_
          refine w_iincN d_f_sort_99 rfl ?_
          show Wp _ 102 _ _ _ _
          refine w_goto 2 d_f_sort_102 (by decide) ?_
          refine hn9 h4 _ _ _ _ (by omega) (by exact g1) ?_ (insF s i t) (hs1.ins h4 gti) ?_ ?_
          · intro a j ha
            rw [put_ne (by omega), put_ne (by omega)]
            exact g2 a j ha
          · have k22 : ∀ j, j < n → (put (put S2 22 t (S1.1 22 i)) 23 t (S1.1 23 i)).1 22 j = insF (S1.1 22) i t j := by
              intro j hj
              rw [put_ne (by omega)]
              unfold insF
              by_cases hjt : j = t
              · rw [if_pos hjt, hjt, put_at]
              · rw [if_neg hjt, put_ne (by omega), g3 22 (by omega) j hj]
            have k23 : ∀ j, j < n → (put (put S2 22 t (S1.1 22 i)) 23 t (S1.1 23 i)).1 23 j = insF (S1.1 23) i t j := by
              intro j hj
              unfold insF
              by_cases hjt : j = t
              · rw [if_pos hjt, hjt, put_at]
              · rw [if_neg hjt, put_ne (by omega), put_ne (by omega), g3 23 (by omega) j hj]
            intro j hj
            have q22 : insF (S1.1 22) i t j = S.1 22 (insF s i t j) := by
              rw [← insF_comp (S.1 22) s i t j]
              unfold insF
              rw [(hs2 i h4).1, (hs2 j hj).1]
              by_cases hj0 : j = 0
              · rw [show j - 1 = j by omega, (hs2 j hj).1]
              · rw [(hs2 (j - 1) (by omega)).1]
            have q23 : insF (S1.1 23) i t j = S.1 23 (insF s i t j) := by
              rw [← insF_comp (S.1 23) s i t j]
              unfold insF
              rw [(hs2 i h4).2, (hs2 j hj).2]
              by_cases hj0 : j = 0
              · rw [show j - 1 = j by omega, (hs2 j hj).2]
              · rw [(hs2 (j - 1) (by omega)).2]
            exact ⟨(k22 j hj).trans q22, (k23 j hj).trans q23⟩
          · have k22 : ∀ j, j < n → (put (put S2 22 t (S1.1 22 i)) 23 t (S1.1 23 i)).1 22 j = insF (S1.1 22) i t j := by
              intro j hj
              rw [put_ne (by omega)]
              unfold insF
              by_cases hjt : j = t
              · rw [if_pos hjt, hjt, put_at]
              · rw [if_neg hjt, put_ne (by omega), g3 22 (by omega) j hj]
            have k23 : ∀ j, j < n → (put (put S2 22 t (S1.1 22 i)) 23 t (S1.1 23 i)).1 23 j = insF (S1.1 23) i t j := by
              intro j hj
              unfold insF
              by_cases hjt : j = t
              · rw [if_pos hjt, hjt, put_at]
              · rw [if_neg hjt, put_ne (by omega), put_ne (by omega), g3 23 (by omega) j hj]
            intro a b hab hb
            rw [k22 a (by omega), k22 b (by omega), k23 a (by omega), k23 b (by omega)]
            exact srt_ins gti hs3 (fun a ha => by rw [(hs2 i h4).1, (hs2 a (by omega)).1]; exact hne _ _ (hs1.1 i h4) (hs1.1 a (by omega)) (fun q => by have := hs1.2 i a h4 (by omega) q; omega)) g4 (fun q => absurd q (by omega)) a b hab hb
        · refine w_aload_n d_f_sort_30 rfl ?_
          refine w_iload d_f_sort_31 rfl ?_
          refine w_iload_n d_f_sort_33 rfl ?_
          refine w_iload d_f_sort_34 rfl ?_
          refine w_iconst (v := nI 1) d_f_sort_36 (by decide +kernel) ?_
          refine w_isubN d_f_sort_37 (by omega) ?_
          refine w_callV3 (N := M_f_isBefore) d_f_sort_38 LK_f_97 MF_f_isBefore MV_f_isBefore NP_f_isBefore (by decide) (by decide) (rfl) rfl rfl (Nat.le_of_ble_eq_true rfl) ?_
          refine Ev.det (c_f_isBefore S2 _ _ _ (by omega)) ?_
          rw [g3 22 (by omega) (t - 1) (by omega), g3 23 (by omega) (t - 1) (by omega), if_neg (by omega), if_neg (by omega)]
          refine w_if_eqB 82 d_f_sort_41 (by decide) (fun h41 => ?_) (fun h41 => ?_)
          · refine w_aload_n d_f_sort_82 rfl ?_
            refine w_getR d_f_sort_83 FL_f_18 (by decide) (rfl) (rfl) ?_
            refine w_iload d_f_sort_86 rfl ?_
            refine w_iload_n d_f_sort_88 rfl ?_
            refine w_iastNP d_f_sort_89 (by decide) (rfl) (show t < 20 from (by omega)) ?_
            refine w_aload_n d_f_sort_90 rfl ?_
            refine w_getR d_f_sort_91 FL_f_21 (by decide) (rfl) (rfl) ?_
            refine w_iload d_f_sort_94 rfl ?_
            refine w_iload d_f_sort_96 rfl ?_
            refine w_iastNP d_f_sort_98 (by decide) (rfl) (show t < 20 from (by omega)) ?_
            refine w_iincN d_f_sort_99 rfl ?_
            show Wp _ 102 _ _ _ _
            refine w_goto 2 d_f_sort_102 (by decide) ?_
            refine hn9 h4 _ _ _ _ (by omega) (by exact g1) ?_ (insF s i t) (hs1.ins h4 gti) ?_ ?_
            · intro a j ha
              rw [put_ne (by omega), put_ne (by omega)]
              exact g2 a j ha
            · have k22 : ∀ j, j < n → (put (put S2 22 t (S1.1 22 i)) 23 t (S1.1 23 i)).1 22 j = insF (S1.1 22) i t j := by
                intro j hj
                rw [put_ne (by omega)]
                unfold insF
                by_cases hjt : j = t
                · rw [if_pos hjt, hjt, put_at]
                · rw [if_neg hjt, put_ne (by omega), g3 22 (by omega) j hj]
              have k23 : ∀ j, j < n → (put (put S2 22 t (S1.1 22 i)) 23 t (S1.1 23 i)).1 23 j = insF (S1.1 23) i t j := by
                intro j hj
                unfold insF
                by_cases hjt : j = t
                · rw [if_pos hjt, hjt, put_at]
                · rw [if_neg hjt, put_ne (by omega), put_ne (by omega), g3 23 (by omega) j hj]
              intro j hj
              have q22 : insF (S1.1 22) i t j = S.1 22 (insF s i t j) := by
                rw [← insF_comp (S.1 22) s i t j]
                unfold insF
                rw [(hs2 i h4).1, (hs2 j hj).1]
                by_cases hj0 : j = 0
                · rw [show j - 1 = j by omega, (hs2 j hj).1]
                · rw [(hs2 (j - 1) (by omega)).1]
              have q23 : insF (S1.1 23) i t j = S.1 23 (insF s i t j) := by
                rw [← insF_comp (S.1 23) s i t j]
                unfold insF
                rw [(hs2 i h4).2, (hs2 j hj).2]
                by_cases hj0 : j = 0
                · rw [show j - 1 = j by omega, (hs2 j hj).2]
                · rw [(hs2 (j - 1) (by omega)).2]
              exact ⟨(k22 j hj).trans q22, (k23 j hj).trans q23⟩
            · have k22 : ∀ j, j < n → (put (put S2 22 t (S1.1 22 i)) 23 t (S1.1 23 i)).1 22 j = insF (S1.1 22) i t j := by
                intro j hj
                rw [put_ne (by omega)]
                unfold insF
                by_cases hjt : j = t
                · rw [if_pos hjt, hjt, put_at]
                · rw [if_neg hjt, put_ne (by omega), g3 22 (by omega) j hj]
              have k23 : ∀ j, j < n → (put (put S2 22 t (S1.1 22 i)) 23 t (S1.1 23 i)).1 23 j = insF (S1.1 23) i t j := by
                intro j hj
                unfold insF
                by_cases hjt : j = t
                · rw [if_pos hjt, hjt, put_at]
                · rw [if_neg hjt, put_ne (by omega), put_ne (by omega), g3 23 (by omega) j hj]
              intro a b hab hb
              rw [k22 a (by omega), k22 b (by omega), k23 a (by omega), k23 b (by omega)]
              exact srt_ins gti hs3 (fun a ha => by rw [(hs2 i h4).1, (hs2 a (by omega)).1]; exact hne _ _ (hs1.1 i h4) (hs1.1 a (by omega)) (fun q => by have := hs1.2 i a h4 (by omega) q; omega)) g4 (fun _ => h41) a b hab hb
          · refine w_aload_n d_f_sort_44 rfl ?_
            refine w_getR d_f_sort_45 FL_f_18 (by decide) (rfl) (rfl) ?_
            refine w_iload d_f_sort_48 rfl ?_
            refine w_aload_n d_f_sort_50 rfl ?_
            refine w_getR d_f_sort_51 FL_f_18 (by decide) (rfl) (rfl) ?_
            refine w_iload d_f_sort_54 rfl ?_
            refine w_iconst (v := nI 1) d_f_sort_56 (by decide +kernel) ?_
            refine w_isubN d_f_sort_57 (by omega) ?_
            refine w_ialdNV (v := ((S1.1 22 (t - 1)))) d_f_sort_58 (by decide) (rfl) (show t - 1 < 20 from (by omega)) (by rw [g3 22 (by omega) _ (by omega), if_neg (by omega)]) ?_
            refine w_iastNP d_f_sort_59 (by decide) (rfl) (show t < 20 from (by omega)) ?_
            refine w_aload_n d_f_sort_60 rfl ?_
            show Wp _ 61 _ _ _ _
            refine w_getR d_f_sort_61 FL_f_21 (by decide) (rfl) (rfl) ?_
            refine w_iload d_f_sort_64 rfl ?_
            refine w_aload_n d_f_sort_66 rfl ?_
            refine w_getR d_f_sort_67 FL_f_21 (by decide) (rfl) (rfl) ?_
            refine w_iload d_f_sort_70 rfl ?_
            refine w_iconst (v := nI 1) d_f_sort_72 (by decide +kernel) ?_
            refine w_isubN d_f_sort_73 (by omega) ?_
            refine w_ialdNV (v := ((S1.1 23 (t - 1)))) d_f_sort_74 (by decide) (rfl) (show t - 1 < 20 from (by omega)) (by rw [put_ne (by omega), g3 23 (by omega) _ (by omega), if_neg (by omega)]) ?_
            refine w_iastNP d_f_sort_75 (by decide) (rfl) (show t < 20 from (by omega)) ?_
            refine w_idecN d_f_sort_76 rfl (by omega) ?_
            refine w_goto 25 d_f_sort_79 (by decide) ?_
            refine hn8 (by omega) _ (by omega) (by exact g1) ?_ ?_ ?_
            · intro a j ha
              rw [put_ne (by omega), put_ne (by omega)]
              exact g2 a j ha
            · intro a ha j hj
              rcases ha with rfl | rfl
              · rw [put_ne (by omega)]
                by_cases hjt : j = t
                · rw [hjt, put_at, if_pos (by omega)]
                · rw [put_ne (by omega), g3 22 (by omega) j hj]
                  by_cases hc : t < j ∧ j ≤ i
                  · rw [if_pos hc, if_pos (by omega)]
                  · rw [if_neg hc, if_neg (by omega)]
              · by_cases hjt : j = t
                · rw [hjt, put_at, if_pos (by omega)]
                · rw [put_ne (by omega), put_ne (by omega), g3 23 (by omega) j hj]
                  by_cases hc : t < j ∧ j ≤ i
                  · rw [if_pos hc, if_pos (by omega)]
                  · rw [if_neg hc, if_neg (by omega)]
            · intro a ha1 ha2
              by_cases hat : a = t - 1
              · rw [hat]; exact h41
              · exact g4 a (by omega) ha2
      refine hin i _ (Nat.le_refl i) h1 h2 (fun a ha j hj => by rw [if_neg (by omega)]) (fun a h1 h2 => absurd h2 (by omega))
  by_cases hn1 : n = 0
  · subst hn1
    refine w_iconst (v := nI 1) d_f_sort_0 (by decide +kernel) ?_
    refine w_istore_n d_f_sort_1 (Nat.le_of_ble_eq_true rfl) ?_
    refine w_iload_n d_f_sort_2 rfl ?_
    refine w_iload_n d_f_sort_3 rfl ?_
    refine w_icmp_geN 105 d_f_sort_4 (by decide) (by omega) (by omega) (fun h4 => ?_) (fun h4 => ?_)
    · refine w_ret (st := []) rfl d_f_sort_105 ?_
      exact ⟨rfl, rfl, fun _ _ _ => rfl, fun j => j, Prm.id 0, fun j hj => absurd hj (by omega), fun a b h1 h2 => absurd h2 (by omega)⟩
    · exact absurd h4 (by omega)
  · have h01 : ∀ x3 x4 x5 : Value, Wp M_f_sort 2 [.ref 6, .int (nI n), .int (nI 1), x3, x4, x5] [] S (fun v9 S' => v9 = none ∧ S'.2 = S.2 ∧ (∀ a i, ¬ ((a = 22 ∨ a = 23) ∧ i < n) → S'.1 a i = S.1 a i) ∧ ∃ s, Prm s n ∧ (∀ j, j < n → S'.1 22 j = S.1 22 (s j) ∧ S'.1 23 j = S.1 23 (s j)) ∧ ∀ a b, a < b → b < n → bef (S'.1 23 a) (S'.1 22 a) (S'.1 23 b) (S'.1 22 b) = true) := fun x3 x4 x5 => hk0 1 (by omega) S x3 x4 x5 (Nat.le_refl 1) rfl (fun _ _ _ => rfl) (fun j => j) (Prm.id n) (fun _ _ => ⟨rfl, rfl⟩) (fun a b h1 h2 => absurd h1 (by omega))
    refine w_iconst (v := nI 1) d_f_sort_0 (by decide +kernel) ?_
    refine w_istore_n d_f_sort_1 (Nat.le_of_ble_eq_true rfl) ?_
    exact h01 _ _ _
end
section
/-! The finder's search. Entry number i (its place in the table) has the list l i and the code c i. -/
def cntB (p : Nat → Bool) : Nat → Nat
  | 0 => 0
  | n + 1 => cntB p n + if p n = true then 1 else 0
theorem cntB_s1 {p : Nat → Bool} {n : Nat} (h : p n = true) : cntB p (n + 1) = cntB p n + 1 := by show cntB p n + (if p n = true then 1 else 0) = _; rw [if_pos h]
theorem cntB_s0 {p : Nat → Bool} {n : Nat} (h : p n = false) : cntB p (n + 1) = cntB p n := by show cntB p n + (if p n = true then 1 else 0) = _; rw [if_neg (by rw [h]; decide)]; rfl
theorem cntB_mono {p : Nat → Bool} : ∀ {a b : Nat}, a ≤ b → cntB p a ≤ cntB p b := by
  intro a b h
  induction b with
  | zero => obtain rfl : a = 0 := by omega
            exact Nat.le_refl _
  | succ b ih =>
    by_cases hab : a = b + 1
    · subst hab; exact Nat.le_refl _
    · have := ih (by omega)
      show _ ≤ cntB p b + _
      omega
theorem cntB_le (p : Nat → Bool) : ∀ n, cntB p n ≤ n
  | 0 => Nat.le_refl 0
  | n + 1 => by
    have := cntB_le p n
    show cntB p n + (if p n = true then 1 else 0) ≤ n + 1
    split <;> omega
theorem cntB_lt {p : Nat → Bool} {a b : Nat} (h : a < b) (ha : p a = true) : cntB p a < cntB p b := by
  have h1 := cntB_mono (p := p) (show a + 1 ≤ b from h)
  rw [cntB_s1 ha] at h1
  omega
theorem cntB_inj {p : Nat → Bool} {a b : Nat} (ha : p a = true) (hb : p b = true) (h : cntB p a = cntB p b) : a = b := by
  by_cases h1 : a < b
  · have := cntB_lt h1 ha; omega
  · by_cases h2 : b < a
    · have := cntB_lt h2 hb; omega
    · omega
theorem cntB_surj {p : Nat → Bool} : ∀ {n j : Nat}, j < cntB p n → ∃ i, i < n ∧ p i = true ∧ cntB p i = j
  | 0, j, h => absurd h (Nat.not_lt_zero j)
  | n + 1, j, h => by
    by_cases hj : j < cntB p n
    · obtain ⟨i, h1, h2⟩ := cntB_surj hj
      exact ⟨i, by omega, h2⟩
    · cases hp : p n with
      | true =>
        rw [cntB_s1 hp] at h
        exact ⟨n, by omega, hp, by omega⟩
      | false =>
        rw [cntB_s0 hp] at h
        omega
theorem cntB_congr {p q : Nat → Bool} : ∀ {n : Nat}, (∀ i, i < n → p i = q i) → cntB p n = cntB q n
  | 0, _ => rfl
  | n + 1, h => by
    show cntB p n + (if p n = true then 1 else 0) = cntB q n + (if q n = true then 1 else 0)
    rw [cntB_congr (fun i hi => h i (by omega)), h n (by omega)]
def prb (S : St) (nl pb : Nat) (l : Nat → Nat) (i : Nat) : Bool := decide (lbef (fun j => dst (S.1 (104 + j)) (S.1 21) 4) (l i) nl < pb)
def dcd (S : St) (kind : Int32) (l : Nat → Nat) (c : Nat → Nat → Nat) (i : Nat) : Int32 := if kind = nI 2 then dst (S.1 21) (S.1 (S.2 i + 40)) 4 else wsum S kind (lfOf S (l i) (S.1 21)) (c i) (parts kind)
def exd (S : St) (i : Nat) : Int32 := dst (S.1 21) (S.1 (S.2 i + 40)) 4
theorem wsum_congr {S S' : St} {kind : Int32} {y y' : Nat → Int32} {c : Nat → Nat} (hy : ∀ k, k < 4 → y k = y' k) : ∀ {p : Nat}, p ≤ parts kind → (∀ q, q < p → ∀ k, k < pwid kind → S.1 (108 + (q * 4 + c q)) k = S'.1 (108 + (q * 4 + c q)) k) → wsum S kind y c p = wsum S' kind y' c p
  | 0, _, _ => rfl
  | p + 1, hp, h => by
    show wsum S kind y c p + wdOf S kind y p (c p) = wsum S' kind y' c p + wdOf S' kind y' p (c p)
    rw [wsum_congr hy (by omega) (fun q hq => h q (by omega)), wdOf_congr (by omega) (h p (by omega)) hy]
/-- what the entries' rows hold -/
def EH (S : St) (kind : Int32) (nl m : Nat) (l : Nat → Nat) (c : Nat → Nat → Nat) : Prop := S.1 4 4 = kind ∧ S.1 4 5 = nI nl ∧ 0 < nl ∧ nl ≤ 4 ∧ S.1 5 1 = nI m ∧ m ≤ 20 ∧ (∀ i, i < 20 → 124 ≤ S.2 i ∧ S.2 i < 144) ∧ ∀ i, i < m → (S.1 (S.2 i) 4 = nI (l i) ∧ l i < nl) ∧ ∀ k, k < parts kind → S.1 (S.2 i + 60) k = nI (c i k) ∧ c i k < 4
/-- what the finder may write -/
def FrF (S S' : St) : Prop := S'.2 = S.2 ∧ ∀ a i, ¬ (a = 18 ∨ a = 22 ∨ a = 23 ∨ a = 24 ∨ (a = 6 ∧ (i = 7 ∨ i = 8))) → S'.1 a i = S.1 a i
theorem FrF.rf (S : St) : FrF S S := ⟨rfl, fun _ _ _ => rfl⟩
theorem FrF.tr {S S1 S2 : St} (h : FrF S S1) (h2 : FrF S1 S2) : FrF S S2 := ⟨h2.1.trans h.1, fun a i q => (h2.2 a i q).trans (h.2 a i q)⟩
theorem FrF.fn {S S1 : St} (h : FrF S S1) {a : Nat} (ha : ¬ (a = 18 ∨ a = 22 ∨ a = 23 ∨ a = 24 ∨ a = 6)) : S1.1 a = S.1 a := by
  funext i
  exact h.2 a i (by omega)
theorem FrF.put {S S1 : St} {c i : Nat} {v : Int32} (h : FrF S S1) (hc : c = 18 ∨ c = 22 ∨ c = 23 ∨ c = 24 ∨ (c = 6 ∧ (i = 7 ∨ i = 8))) : FrF S (put S1 c i v) := ⟨h.1, fun a j q => (put_ne (c := c) (i := i) (c' := a) (i' := j) (fun z => q (by rw [z.1, z.2]; exact hc))).trans (h.2 a j q)⟩
theorem EH.keep {S S1 : St} {kind : Int32} {nl m : Nat} {l : Nat → Nat} {c : Nat → Nat → Nat} (h : EH S kind nl m l c) (hf : FrF S S1) : EH S1 kind nl m l c := by
  obtain ⟨h1, h2, h3, h4, h5, h6, h7, h8⟩ := h
  refine ⟨by rw [hf.2 4 4 (by omega)]; exact h1, by rw [hf.2 4 5 (by omega)]; exact h2, h3, h4, by rw [hf.2 5 1 (by omega)]; exact h5, h6, by rw [hf.1]; exact h7, fun i hi => ?_⟩
  have hT := h7 i (by omega)
  rw [hf.1, hf.2 (S.2 i) 4 (by omega)]
  refine ⟨(h8 i hi).1, fun k hk => ?_⟩
  rw [hf.2 (S.2 i + 60) k (by omega)]
  exact (h8 i hi).2 k hk
theorem prb_keep {S S1 : St} {nl pb : Nat} {l : Nat → Nat} (hf : FrF S S1) (hl : nl ≤ 4) {i : Nat} (hli : l i < nl) : prb S1 nl pb l i = prb S nl pb l i := by
  unfold prb
  rw [hf.fn (a := 21) (by omega)]
  have e : ∀ n, n ≤ nl → lbef (fun j => dst (S1.1 (104 + j)) (S.1 21) 4) (l i) n = lbef (fun j => dst (S.1 (104 + j)) (S.1 21) 4) (l i) n := by
    intro n hn
    induction n with
    | zero => rfl
    | succ n ih =>
      show lbef _ (l i) n + (if dst (S1.1 (104 + n)) (S.1 21) 4 < dst (S1.1 (104 + l i)) (S.1 21) 4 ∨ dst (S1.1 (104 + n)) (S.1 21) 4 = dst (S1.1 (104 + l i)) (S.1 21) 4 ∧ n < l i then 1 else 0) = lbef _ (l i) n + _
      rw [ih (by omega), hf.fn (a := 104 + n) (by omega), hf.fn (a := 104 + l i) (by omega)]
  rw [e nl (Nat.le_refl nl)]
theorem exd_keep {S S1 : St} (hf : FrF S S1) {i : Nat} (hT : 124 ≤ S.2 i ∧ S.2 i < 144) : exd S1 i = exd S i := by
  unfold exd
  rw [hf.1, hf.fn (a := 21) (by omega), hf.fn (a := S.2 i + 40) (by omega)]
theorem dcd_keep {S S1 : St} {kind : Int32} {l : Nat → Nat} {c : Nat → Nat → Nat} (hf : FrF S S1) {i : Nat} (hT : 124 ≤ S.2 i ∧ S.2 i < 144) (hl : l i < 4) (hc : ∀ k, k < parts kind → c i k < 4) : dcd S1 kind l c i = dcd S kind l c i := by
  unfold dcd
  rw [hf.1, hf.fn (a := 21) (by omega), hf.fn (a := S.2 i + 40) (by omega)]
  have e : wsum S1 kind (lfOf S1 (l i) (S.1 21)) (c i) (parts kind) = wsum S kind (lfOf S (l i) (S.1 21)) (c i) (parts kind) := by
    refine wsum_congr (fun k _ => ?_) (Nat.le_refl _) (fun q hq k _ => ?_)
    · unfold lfOf
      rw [hf.fn (a := 104 + l i) (by omega)]
    · have := parts_le kind
      have := hc q hq
      rw [hf.fn (a := 108 + (q * 4 + c i q)) (by omega)]
  rw [e]
/-- R lists, in their order by D and place, the numbers with p -/
def Enm (R : Nat → Nat) (n : Nat) (p : Nat → Prop) (D : Nat → Int32) : Prop := (∀ j, j < n → p (R j)) ∧ (∀ i, p i → ∃ j, j < n ∧ R j = i) ∧ ∀ a b, a < b → b < n → bef (D (R a)) (nI (R a)) (D (R b)) (nI (R b)) = true
theorem Enm.inj {R : Nat → Nat} {n : Nat} {p : Nat → Prop} {D : Nat → Int32} (h : Enm R n p D) {a b : Nat} (ha : a < n) (hb : b < n) (hab : R a = R b) : a = b := by
  by_cases h1 : a < b
  · have := h.2.2 a b h1 hb
    rw [hab, bef_irr] at this
    cases this
  · by_cases h2 : b < a
    · have := h.2.2 b a h2 ha
      rw [hab, bef_irr] at this
      cases this
    · omega
theorem minN {a b : Nat} (ha : a < 2 ^ 31) (hb : b < 2 ^ 31) : (if nI b < nI a then nI b else nI a) = nI (min a b) := by
  by_cases h : b < a
  · rw [if_pos ((nI_ltI hb ha).mpr h), show min a b = b by omega]
  · rw [if_neg (fun q => h ((nI_ltI hb ha).mp q)), show min a b = a by omega]
/-- a permutation of n numbers reaches all of them -/
theorem Prm.onto : ∀ {n : Nat} {s : Nat → Nat}, Prm s n → ∀ i, i < n → ∃ j, j < n ∧ s j = i
  | 0, _, _, i, hi => absurd hi (by omega)
  | n + 1, s, h, i, hi => by
    by_cases hl : s n = n
    · by_cases hin : i = n
      · exact ⟨n, by omega, by rw [hl, hin]⟩
      · have h' : Prm s n := ⟨fun j hj => by
            have h1 := h.1 j (by omega)
            have h2 : s j ≠ n := fun q => by have := h.2 j n (by omega) (by omega) (by rw [q, hl]); omega
            omega, fun a b ha hb => h.2 a b (by omega) (by omega)⟩
        obtain ⟨j, hj, e⟩ := Prm.onto h' i (by omega)
        exact ⟨j, by omega, e⟩
    · have hsn := h.1 n (by omega)
      have h' : Prm (fun j => if s j = n then s n else s j) n := ⟨fun j hj => by
          show (if s j = n then s n else s j) < n
          have h1 := h.1 j (by omega)
          split <;> omega, fun a b ha hb hab => by
          have hab : (if s a = n then s n else s a) = (if s b = n then s n else s b) := hab
          by_cases q1 : s a = n <;> by_cases q2 : s b = n
          · exact h.2 a b (by omega) (by omega) (by rw [q1, q2])
          · rw [if_pos q1, if_neg q2] at hab
            have := h.2 n b (by omega) (by omega) hab
            omega
          · rw [if_neg q1, if_pos q2] at hab
            have := h.2 a n (by omega) (by omega) hab
            omega
          · rw [if_neg q1, if_neg q2] at hab
            exact h.2 a b (by omega) (by omega) hab⟩
      by_cases hin : i = s n
      · exact ⟨n, by omega, hin.symm⟩
      · by_cases hi2 : i = n
        · obtain ⟨j, hj, e⟩ := Prm.onto h' (s n) (by omega)
          have e : (if s j = n then s n else s j) = s n := e
          by_cases q : s j = n
          · exact ⟨j, by omega, by rw [q, hi2]⟩
          · rw [if_neg q] at e
            have := h.2 j n (by omega) (by omega) e
            omega
        · obtain ⟨j, hj, e⟩ := Prm.onto h' i (by omega)
          have e : (if s j = n then s n else s j) = i := e
          by_cases q : s j = n
          · rw [if_pos q] at e
            exact absurd e.symm hin
          · rw [if_neg q] at e
            exact ⟨j, by omega, e⟩
set_option maxRecDepth 100000 in
set_option maxHeartbeats 4000000 in
theorem c_f_lookThrough (S : St) (kind : Int32) (nl m : Nat) (l : Nat → Nat) (c : Nat → Nat → Nat) (hE : EH S kind nl m l c) (pb : Nat) (hpb : S.1 6 5 = nI pb) (hpb4 : pb ≤ 4) : Ev M_f_lookThrough [.ref 6, .ref 4, .ref 5] S (fun v9 S' => v9 = none ∧ FrF S S' ∧ S'.1 6 7 = nI (cntB (prb S nl pb l) m) ∧ ∀ i, i < m → (prb S nl pb l) i = true → S'.1 22 (cntB (prb S nl pb l) i) = nI i ∧ S'.1 23 (cntB (prb S nl pb l) i) = (dcd S kind l c) i) := by
  refine Ev.of MF_f_lookThrough (all_cat rfl) (Nat.le_of_ble_eq_true rfl) ?_
  show Wp M_f_lookThrough 0 [.ref 6, .ref 4, .ref 5, .null, .null] [] _ _
  have hE0 := hE
  obtain ⟨hk, hl, hl1, hl4, hm, hm20, hT, hen⟩ := hE
  have hk0 : ∀ i, i ≤ m → ∀ (S1 : St) (x4 : Value), FrF S S1 → S1.1 6 7 = nI (cntB (prb S nl pb l) i) → (∀ j, j < i → (prb S nl pb l) j = true → S1.1 22 (cntB (prb S nl pb l) j) = nI j ∧ S1.1 23 (cntB (prb S nl pb l) j) = (dcd S kind l c) j) → Wp M_f_lookThrough 7 [.ref 6, .ref 4, .ref 5, .int (nI i), x4] [] S1 (fun v9 S' => v9 = none ∧ FrF S S' ∧ S'.1 6 7 = nI (cntB (prb S nl pb l) m) ∧ ∀ i, i < m → (prb S nl pb l) i = true → S'.1 22 (cntB (prb S nl pb l) i) = nI i ∧ S'.1 23 (cntB (prb S nl pb l) i) = (dcd S kind l c) i) := by
    refine loopUp (m) (fun i hk9 hn9 => ?_)
    intro S1 x4 h1 h2 h3
    have hE1 := hE0.keep h1
    have hci := cntB_le (prb S nl pb l) i
    refine w_iload_n d_f_lookThrough_7 rfl ?_
    refine w_aload_n d_f_lookThrough_8 rfl ?_
    refine w_getIV (v := (nI m)) d_f_lookThrough_9 FL_f_66 (by decide) (rfl) (rfl) (hE1.2.2.2.2.1) ?_
    refine w_icmp_geN 88 d_f_lookThrough_12 (by decide) (by omega) (by omega) (fun h12 => ?_) (fun h12 => ?_)
    · refine w_ret (st := []) rfl d_f_lookThrough_88 ?_
      obtain rfl : i = m := by omega
      exact ⟨rfl, h1, h2, h3⟩
    · refine w_aload_n d_f_lookThrough_15 rfl ?_
      refine w_getR d_f_lookThrough_16 FL_f_71 (by decide) (rfl) (rfl) ?_
      refine w_iload_n d_f_lookThrough_19 rfl ?_
      refine w_ealdNV (b := ((S.2 i))) d_f_lookThrough_20 (by omega) (by rw [h1.1]) ?_
      refine w_astore d_f_lookThrough_21 (Nat.le_of_ble_eq_true rfl) ?_
      refine w_aload_n d_f_lookThrough_23 rfl ?_
      refine w_aload d_f_lookThrough_24 rfl ?_
      refine w_getIV (v := (nI (l i))) d_f_lookThrough_26 FL_f_75 (by have := hT i (by omega); omega) (kd_ent ((hT i (by omega)).1) ((hT i (by omega)).2)) (fref_entI ((hT i (by omega)).1) (by decide)) (by rw [h1.2 _ _ (by have := hT i (by omega); omega)]; exact (hen i h12).1.1) ?_
      refine w_aload_n d_f_lookThrough_29 rfl ?_
      refine w_getR d_f_lookThrough_30 FL_f_15 (by decide) (rfl) (rfl) ?_
      refine w_callV2 (N := M_z_listsBefore) d_f_lookThrough_33 LK_f_80 MF_z_listsBefore MV_z_listsBefore NP_z_listsBefore (by decide) (by decide) (rfl) rfl rfl (Nat.le_of_ble_eq_true rfl) ?_
      refine Ev.det (c_z_listsBefore S1 nl (l i) 21 hE1.2.1 hl4 (hen i h12).1.2 (by decide) (by decide) (by decide)) ?_
      have hpk := prb_keep (pb := pb) h1 hl4 (hen i h12).1.2
      have hlb := lbef_le (fun j => dst (S1.1 (104 + j)) (S1.1 21) 4) (l i) nl
      show Wp _ 36 _ _ _ _
      refine w_aload_n d_f_lookThrough_36 rfl ?_
      refine w_getIV (v := (nI pb)) d_f_lookThrough_37 FL_f_27 (by decide) (rfl) (rfl) ((h1.2 6 5 (by omega)).trans hpb) ?_
      refine w_icmp_geN 82 d_f_lookThrough_40 (by decide) (by omega) (by omega) (fun h40 => ?_) (fun h40 => ?_)
      · refine w_iincN d_f_lookThrough_82 rfl ?_
        refine w_goto 7 d_f_lookThrough_85 (by decide) ?_
        have hp0 : (prb S nl pb l) i = false := by rw [← hpk]; unfold prb; exact decide_eq_false (fun q => absurd q (by omega))
        refine hn9 h12 _ _ h1 (by rw [cntB_s0 hp0]; exact h2) ?_
        intro j hj hpj
        by_cases hji : j = i
        · rw [hji, hp0] at hpj; cases hpj
        · exact h3 j (by omega) hpj
      · refine w_aload_n d_f_lookThrough_43 rfl ?_
        refine w_getR d_f_lookThrough_44 FL_f_18 (by decide) (rfl) (rfl) ?_
        refine w_aload_n d_f_lookThrough_47 rfl ?_
        refine w_getIV (v := (nI (cntB (prb S nl pb l) i))) d_f_lookThrough_48 FL_f_45 (by decide) (rfl) (rfl) (h2) ?_
        refine w_iload_n d_f_lookThrough_51 rfl ?_
        refine w_iastNP d_f_lookThrough_52 (by decide) (rfl) (show cntB (prb S nl pb l) i < 20 from (by omega)) ?_
        refine w_aload_n d_f_lookThrough_53 rfl ?_
        refine w_getR d_f_lookThrough_54 FL_f_21 (by decide) (rfl) (rfl) ?_
        refine w_aload_n d_f_lookThrough_57 rfl ?_
        refine w_getIV (v := (nI (cntB (prb S nl pb l) i))) d_f_lookThrough_58 FL_f_45 (by decide) (rfl) (rfl) (by rw [put_ne (by omega)]; exact h2) ?_
        refine w_aload_n d_f_lookThrough_61 rfl ?_
        show Wp _ 62 _ _ _ _
        refine w_aload_n d_f_lookThrough_62 rfl ?_
        refine w_getR d_f_lookThrough_63 FL_f_15 (by decide) (rfl) (rfl) ?_
        refine w_aload d_f_lookThrough_66 rfl ?_
        refine w_callV2 (N := M_z_codeDistance) d_f_lookThrough_68 LK_f_86 MF_z_codeDistance MV_z_codeDistance NP_z_codeDistance (by decide) (by decide) (rfl) rfl rfl (Nat.le_of_ble_eq_true rfl) ?_
        have hFp := h1.put (c := 22) (i := cntB (prb S nl pb l) i) (v := nI i) (by omega)
        have hEp := hE0.keep hFp
        have hTi := hT i (by omega)
        have hei := hEp.2.2.2.2.2.2.2 i h12
        rw [hFp.1] at hei
        refine Ev.mono (c_z_codeDistance _ kind 0 (S.2 i) 21 (l i) (c i) hEp.1 hei.1.1 (by have := hei.1.2; omega) hei.2 (by decide) (by decide) (by decide) hTi.1 hTi.2) (fun r9 S3 hq => ?_)
        obtain ⟨rfl, g0, g2⟩ := hq
        have hd0 := dcd_keep (kind := kind) (l := l) (c := c) hFp hTi (by have := hei.1.2; omega) (fun k hk => (hei.2 k hk).2)
        unfold dcd at hd0
        rw [hFp.1] at hd0
        rw [hd0]
        have g1 : FrF (put S1 22 (cntB (prb S nl pb l) i) (nI i)) S3 := ⟨g0, fun a i q => g2 a i (by omega)⟩
        have hp1 : (prb S nl pb l) i = true := by rw [← hpk]; unfold prb; exact decide_eq_true (by omega)
        show Wp _ _ _ (.int (dcd S kind l c i) :: _) _ _
        refine w_iastNP d_f_lookThrough_71 (by decide) (rfl) (show cntB (prb S nl pb l) i < 20 from (by omega)) ?_
        refine w_aload_n d_f_lookThrough_72 rfl ?_
        refine w_dup d_f_lookThrough_73 rfl ?_
        refine w_getIV (v := (nI (cntB (prb S nl pb l) i))) d_f_lookThrough_74 FL_f_45 (by decide) (rfl) (rfl) (by rw [put_ne (by omega), g2 6 7 (by omega), put_ne (by omega)]; exact h2) ?_
        refine w_iconst (v := nI 1) d_f_lookThrough_77 (by decide +kernel) ?_
        refine w_iaddN d_f_lookThrough_78 ?_
        refine w_putIP d_f_lookThrough_79 FL_f_45 FW_6_7 (by decide) (rfl) (rfl) ?_
        refine w_iincN d_f_lookThrough_82 rfl ?_
        show Wp _ 85 _ _ _ _
        refine w_goto 7 d_f_lookThrough_85 (by decide) ?_
        refine hn9 h12 _ _ ((((h1.put (by omega)).tr g1).put (by omega)).put (by omega)) (by rw [put_at, cntB_s1 hp1]) ?_
        intro j hj hpj
        by_cases hji : j = i
        · subst hji
          refine ⟨?_, by rw [put_ne (by omega), put_at]⟩
          rw [put_ne (by omega), put_ne (by omega), g2 22 _ (by omega), put_at]
        · have hne := cntB_lt (show j < i by omega) hpj
          refine ⟨?_, ?_⟩
          · rw [put_ne (by omega), put_ne (by omega), g2 22 _ (by omega), put_ne (by omega)]
            exact (h3 j (by omega) hpj).1
          · rw [put_ne (by omega), put_ne (by omega), g2 23 _ (by omega), put_ne (by omega)]
            exact (h3 j (by omega) hpj).2
  refine w_aload_n d_f_lookThrough_0 rfl ?_
  refine w_iconst (v := nI 0) d_f_lookThrough_1 (by decide +kernel) ?_
  refine w_putIP d_f_lookThrough_2 FL_f_45 FW_6_7 (by decide) (rfl) (rfl) ?_
  refine w_iconst (v := nI 0) d_f_lookThrough_5 (by decide +kernel) ?_
  refine w_istore_n d_f_lookThrough_6 (Nat.le_of_ble_eq_true rfl) ?_
  exact hk0 0 (by omega) _ _ ((FrF.rf S).put (by omega)) put_at lt_0
set_option maxRecDepth 100000 in
set_option maxHeartbeats 4000000 in
theorem c_f_measure (S : St) (n : Nat) (P : Nat → Nat) (hn20 : n ≤ 20) (hP : ∀ j, j < n → S.1 22 j = nI (P j) ∧ P j < 20) (hT : ∀ i, i < 20 → 124 ≤ S.2 i ∧ S.2 i < 144) : Ev M_f_measure [.ref 6, .ref 5, .int (nI n)] S (fun v9 S' => v9 = none ∧ S' = setRow S 23 (fun j => exd S (P j)) n) := by
  refine Ev.of MF_f_measure (all_cat rfl) (Nat.le_of_ble_eq_true rfl) ?_
  show Wp M_f_measure 0 [.ref 6, .ref 5, .int (nI n), .null] [] _ _
  have hk0 : ∀ i, i ≤ n → ∀ (S1 : St), S1 = setRow S 23 (fun j => exd S (P j)) i → Wp M_f_measure 2 [.ref 6, .ref 5, .int (nI n), .int (nI i)] [] S1 (fun v9 S' => v9 = none ∧ S' = setRow S 23 (fun j => exd S (P j)) n) := by
    refine loopUp (n) (fun i hk9 hn9 => ?_)
    intro S1 hS
    have e1 : ∀ a, a ≠ 23 → S1.1 a = S.1 a := fun a ha => by rw [hS, setRow_row ha]
    have e2 : S1.2 = S.2 := by rw [hS]; rfl
    refine w_iload_n d_f_measure_2 rfl ?_
    refine w_iload_n d_f_measure_3 rfl ?_
    refine w_icmp_geN 42 d_f_measure_4 (by decide) (by omega) (by omega) (fun h4 => ?_) (fun h4 => ?_)
    · refine w_ret (st := []) rfl d_f_measure_42 ?_
      obtain rfl : i = n := by omega
      exact ⟨rfl, hS⟩
    · refine w_aload_n d_f_measure_7 rfl ?_
      refine w_getR d_f_measure_8 FL_f_21 (by decide) (rfl) (rfl) ?_
      refine w_iload_n d_f_measure_11 rfl ?_
      refine w_aload_n d_f_measure_12 rfl ?_
      refine w_getR d_f_measure_13 FL_f_15 (by decide) (rfl) (rfl) ?_
      refine w_aload_n d_f_measure_16 rfl ?_
      refine w_getR d_f_measure_17 FL_f_71 (by decide) (rfl) (rfl) ?_
      refine w_aload_n d_f_measure_20 rfl ?_
      refine w_getR d_f_measure_21 FL_f_18 (by decide) (rfl) (rfl) ?_
      refine w_iload_n d_f_measure_24 rfl ?_
      refine w_ialdNV (v := (nI (P i))) d_f_measure_25 (by decide) (rfl) (show i < 20 from (by omega)) (by rw [e1 22 (by decide)]; exact (hP i h4).1) ?_
      show Wp _ 26 _ _ _ _
      refine w_ealdNV (b := ((S.2 (P i)))) d_f_measure_26 ((hP i h4).2) (by rw [e2]) ?_
      refine w_getR d_f_measure_27 FL_f_90 (by have := hT (P i) (by have := (hP i h4).2; omega); omega) (kd_ent ((hT (P i) (by have := (hP i h4).2; omega)).1) ((hT (P i) (by have := (hP i h4).2; omega)).2)) (fref_ent1 ((hT (P i) (by have := (hP i h4).2; omega)).1)) ?_
      refine w_iconst (v := nI 0) d_f_measure_30 (by decide +kernel) ?_
      refine w_iconst (v := nI 4) d_f_measure_31 (by decide +kernel) ?_
      refine w_callS4 (N := M_q_distance) d_f_measure_32 LK_f_93 MF_q_distance MS_q_distance NP_q_distance (by decide) rfl (Nat.le_of_ble_eq_true rfl) ?_
      have hTi := hT (P i) (hP i h4).2
      refine Ev.det (c_q_distance _ _ _ _ _ (by decide) (by decide) (by decide) (by omega) (kd_enta (by omega) (by omega)) (by rw [ln_enta (by omega) (by omega)]; exact Nat.le_refl 4) (by decide)) ?_
      simp only [Nat.zero_add]
      rw [e1 21 (by decide), e1 (S.2 (P i) + 40) (by omega)]
      refine w_iastNP d_f_measure_35 (by decide) (rfl) (show i < 20 from (by omega)) ?_
      refine w_iincN d_f_measure_36 rfl ?_
      refine w_goto 2 d_f_measure_39 (by decide) ?_
      refine hn9 h4 _ ?_
      rw [hS]
      exact setRow_s rfl
  refine w_iconst (v := nI 0) d_f_measure_0 (by decide +kernel) ?_
  refine w_istore_n d_f_measure_1 (Nat.le_of_ble_eq_true rfl) ?_
  exact hk0 0 (by omega) _ (setRow_0 _ _ _).symm
set_option maxRecDepth 100000 in
set_option maxHeartbeats 4000000 in
theorem c_f_keepIds (S : St) (n : Nat) (P : Nat → Nat) (hn : S.1 6 8 = nI n) (hn20 : n ≤ 20) (hP : ∀ j, j < n → S.1 22 j = nI (P j) ∧ P j < 20) (hT : ∀ i, i < 20 → 124 ≤ S.2 i ∧ S.2 i < 144) : Ev M_f_keepIds [.ref 6, .ref 5] S (fun v9 S' => v9 = none ∧ S' = setRow S 24 (fun j => S.1 (S.2 (P j)) 3) n) := by
  refine Ev.of MF_f_keepIds (all_cat rfl) (Nat.le_of_ble_eq_true rfl) ?_
  show Wp M_f_keepIds 0 [.ref 6, .ref 5, .null] [] _ _
  have hk0 : ∀ i, i ≤ n → ∀ (S1 : St), S1 = setRow S 24 (fun j => S.1 (S.2 (P j)) 3) i → Wp M_f_keepIds 2 [.ref 6, .ref 5, .int (nI i)] [] S1 (fun v9 S' => v9 = none ∧ S' = setRow S 24 (fun j => S.1 (S.2 (P j)) 3) n) := by
    refine loopUp (n) (fun i hk9 hn9 => ?_)
    intro S1 hS
    have e1 : ∀ a, a ≠ 24 → S1.1 a = S.1 a := fun a ha => by rw [hS, setRow_row ha]
    have e2 : S1.2 = S.2 := by rw [hS]; rfl
    refine w_iload_n d_f_keepIds_2 rfl ?_
    refine w_aload_n d_f_keepIds_3 rfl ?_
    refine w_getIV (v := (nI n)) d_f_keepIds_4 FL_f_34 (by decide) (rfl) (rfl) (by rw [e1 6 (by decide)]; exact hn) ?_
    refine w_icmp_geN 36 d_f_keepIds_7 (by decide) (by omega) (by omega) (fun h7 => ?_) (fun h7 => ?_)
    · refine w_ret (st := []) rfl d_f_keepIds_36 ?_
      obtain rfl : i = n := by omega
      exact ⟨rfl, hS⟩
    · refine w_aload_n d_f_keepIds_10 rfl ?_
      refine w_getR d_f_keepIds_11 FL_f_24 (by decide) (rfl) (rfl) ?_
      refine w_iload_n d_f_keepIds_14 rfl ?_
      refine w_aload_n d_f_keepIds_15 rfl ?_
      refine w_getR d_f_keepIds_16 FL_f_71 (by decide) (rfl) (rfl) ?_
      refine w_aload_n d_f_keepIds_19 rfl ?_
      refine w_getR d_f_keepIds_20 FL_f_18 (by decide) (rfl) (rfl) ?_
      refine w_iload_n d_f_keepIds_23 rfl ?_
      refine w_ialdNV (v := (nI (P i))) d_f_keepIds_24 (by decide) (rfl) (show i < 20 from (by omega)) (by rw [e1 22 (by decide)]; exact (hP i h7).1) ?_
      refine w_ealdNV (b := ((S.2 (P i)))) d_f_keepIds_25 ((hP i h7).2) (by rw [e2]) ?_
      refine w_getIV (v := ((S.1 (S.2 (P i)) 3))) d_f_keepIds_26 FL_f_100 (by have := hT (P i) (by have := (hP i h7).2; omega); omega) (kd_ent ((hT (P i) (by have := (hP i h7).2; omega)).1) ((hT (P i) (by have := (hP i h7).2; omega)).2)) (fref_entI ((hT (P i) (by have := (hP i h7).2; omega)).1) (by decide)) (by rw [e1 (S.2 (P i)) (by have := hT (P i) (hP i h7).2; omega)]) ?_
      show Wp _ 29 _ _ _ _
      refine w_iastNP d_f_keepIds_29 (by decide) (rfl) (show i < 20 from (by omega)) ?_
      refine w_iincN d_f_keepIds_30 rfl ?_
      refine w_goto 2 d_f_keepIds_33 (by decide) ?_
      refine hn9 h7 _ ?_
      rw [hS]
      exact setRow_s rfl
  refine w_iconst (v := nI 0) d_f_keepIds_0 (by decide +kernel) ?_
  refine w_istore_n d_f_keepIds_1 (Nat.le_of_ble_eq_true rfl) ?_
  exact hk0 0 (by omega) _ (setRow_0 _ _ _).symm
end
section
noncomputable def selN (p : Nat → Bool) (n j : Nat) : Nat := if h : j < cntB p n then (cntB_surj h).choose else 0
theorem selN_spec {p : Nat → Bool} {n j : Nat} (h : j < cntB p n) : selN p n j < n ∧ p (selN p n j) = true ∧ cntB p (selN p n j) = j := by
  unfold selN
  rw [dif_pos h]
  exact (cntB_surj h).choose_spec
set_option maxRecDepth 100000 in
set_option maxHeartbeats 4000000 in
theorem c_f_find (S : St) (kind : Int32) (nl m : Nat) (l : Nat → Nat) (c : Nat → Nat → Nat) (hE : EH S kind nl m l c) (pb rf kk : Nat) (hpb : S.1 6 5 = nI pb) (hpb4 : pb ≤ 4) (hrf : S.1 6 6 = nI rf) (hrf3 : rf ≤ 3) (hk8 : kk ≤ 8) : Ev M_f_find [.ref 6, .ref 4, .ref 5, .int (nI kk)] S (fun v9 S' => v9 = none ∧ FrF S S' ∧ S'.1 6 7 = nI (cntB (prb S nl pb l) m) ∧ S'.1 6 8 = nI (min kk (cntB (prb S nl pb l) m)) ∧ ∃ R0 R : Nat → Nat, Enm R0 (cntB (prb S nl pb l) m) (fun i => i < m ∧ (prb S nl pb l) i = true) (dcd S kind l c) ∧ (rf = 0 → R = R0) ∧ (0 < rf → Enm R (min (kk * rf) (cntB (prb S nl pb l) m)) (fun i => ∃ j, j < (min (kk * rf) (cntB (prb S nl pb l) m)) ∧ R0 j = i) (exd S)) ∧ ∀ j, j < (min kk (cntB (prb S nl pb l) m)) → S'.1 24 j = S.1 (S.2 (R j)) 3 ∧ S'.1 23 j = (if rf = 0 then (dcd S kind l c) (R j) else (exd S) (R j))) := by
  refine Ev.of MF_f_find (all_cat rfl) (Nat.le_of_ble_eq_true rfl) ?_
  show Wp M_f_find 0 [.ref 6, .ref 4, .ref 5, .int (nI kk), .null] [] _ _
  have hE0 := hE
  obtain ⟨hk, hl, hl1, hl4, hm, hm20, hT, hen⟩ := hE
  have hq := cntB_le (prb S nl pb l) m
  have h49 : ∀ (S5 : St) (x4 : Value) (R0 R : Nat → Nat), FrF S S5 → S5.1 6 7 = nI (cntB (prb S nl pb l) m) → Enm R0 (cntB (prb S nl pb l) m) (fun i => i < m ∧ (prb S nl pb l) i = true) (dcd S kind l c) → (rf = 0 → R = R0) → (0 < rf → Enm R (min (kk * rf) (cntB (prb S nl pb l) m)) (fun i => ∃ j, j < (min (kk * rf) (cntB (prb S nl pb l) m)) ∧ R0 j = i) (exd S)) → (∀ j, j < (min kk (cntB (prb S nl pb l) m)) → R j < m ∧ S5.1 22 j = nI (R j) ∧ S5.1 23 j = (if rf = 0 then (dcd S kind l c) (R j) else (exd S) (R j))) → Wp M_f_find 49 [.ref 6, .ref 4, .ref 5, .int (nI kk), x4] [] S5 (fun v9 S' => v9 = none ∧ FrF S S' ∧ S'.1 6 7 = nI (cntB (prb S nl pb l) m) ∧ S'.1 6 8 = nI (min kk (cntB (prb S nl pb l) m)) ∧ ∃ R0 R : Nat → Nat, Enm R0 (cntB (prb S nl pb l) m) (fun i => i < m ∧ (prb S nl pb l) i = true) (dcd S kind l c) ∧ (rf = 0 → R = R0) ∧ (0 < rf → Enm R (min (kk * rf) (cntB (prb S nl pb l) m)) (fun i => ∃ j, j < (min (kk * rf) (cntB (prb S nl pb l) m)) ∧ R0 j = i) (exd S)) ∧ ∀ j, j < (min kk (cntB (prb S nl pb l) m)) → S'.1 24 j = S.1 (S.2 (R j)) 3 ∧ S'.1 23 j = (if rf = 0 then (dcd S kind l c) (R j) else (exd S) (R j))) := by
    intro S5 x4 R0 R k1 k2 k3 k4 k5 k6
    refine w_aload_n d_f_find_49 rfl ?_
    refine w_iload_n d_f_find_50 rfl ?_
    refine w_aload_n d_f_find_51 rfl ?_
    refine w_getIV (v := (nI ((cntB (prb S nl pb l) m)))) d_f_find_52 FL_f_45 (by decide) (rfl) (rfl) (k2) ?_
    refine w_callS2 (N := M_j_min) d_f_find_55 LK_f_52 MF_j_min MS_j_min NP_j_min (by decide) rfl (Nat.le_of_ble_eq_true rfl) ?_
    refine Ev.det (c_j_min _ _ _) ?_
    rw [minN (by omega) (by omega)]
    refine w_putIP d_f_find_58 FL_f_34 FW_6_8 (by decide) (rfl) (rfl) ?_
    refine w_aload_n d_f_find_61 rfl ?_
    refine w_aload_n d_f_find_62 rfl ?_
    refine w_callV1 (N := M_f_keepIds) d_f_find_63 LK_f_62 MF_f_keepIds MV_f_keepIds NP_f_keepIds (by decide) (by decide) (rfl) rfl rfl (Nat.le_of_ble_eq_true rfl) ?_
    have k7 : FrF S (put S5 6 8 (nI (min kk (cntB (prb S nl pb l) m)))) := k1.put (by omega)
    refine Ev.det (c_f_keepIds _ (min kk (cntB (prb S nl pb l) m)) R put_at (by omega) (fun j hj => ⟨by rw [put_ne (by omega)]; exact (k6 j hj).2.1, by have := (k6 j hj).1; omega⟩) (by rw [k7.1]; exact hT)) ?_
    refine w_ret (st := []) rfl d_f_find_66 ?_
    refine ⟨rfl, ⟨k7.1, fun a i ha => by rw [setRow_ne (by omega)]; exact k7.2 a i ha⟩, by rw [setRow_ne (by omega), put_ne (by omega)]; exact k2, by rw [setRow_ne (by omega), put_at], R0, R, k3, k4, k5, fun j hj => ⟨?_, ?_⟩⟩
    · rw [setRow_at hj, k7.1, k7.2 _ _ (by have := hT (R j) (by have := (k6 j hj).1; omega); omega)]
    · rw [setRow_ne (by omega), put_ne (by omega)]
      exact (k6 j hj).2.2
  refine w_aload_n d_f_find_0 rfl ?_
  refine w_aload_n d_f_find_1 rfl ?_
  refine w_aload_n d_f_find_2 rfl ?_
  refine w_callV2 (N := M_f_lookThrough) d_f_find_3 LK_f_41 MF_f_lookThrough MV_f_lookThrough NP_f_lookThrough (by decide) (by decide) (rfl) rfl rfl (Nat.le_of_ble_eq_true rfl) ?_
  refine Ev.mono (c_f_lookThrough S kind nl m l c hE0 pb hpb hpb4) (fun r9 S1 hq9 => ?_)
  obtain ⟨rfl, f1, f2, f3⟩ := hq9
  show Wp _ _ _ [] _ _
  have p1 : ∀ j, j < (cntB (prb S nl pb l) m) → S1.1 22 j = nI (selN (prb S nl pb l) m j) ∧ S1.1 23 j = (dcd S kind l c) (selN (prb S nl pb l) m j) := by
    intro j hj
    obtain ⟨a1, a2, a3⟩ := selN_spec hj
    have := f3 _ a1 a2
    rw [a3] at this
    exact this
  refine w_aload_n d_f_find_6 rfl ?_
  refine w_aload_n d_f_find_7 rfl ?_
  refine w_getIV (v := (nI ((cntB (prb S nl pb l) m)))) d_f_find_8 FL_f_45 (by decide) (rfl) (rfl) (f2) ?_
  refine w_callV1 (N := M_f_sort) d_f_find_11 LK_f_48 MF_f_sort MV_f_sort NP_f_sort (by decide) (by decide) (rfl) rfl rfl (Nat.le_of_ble_eq_true rfl) ?_
  refine Ev.mono (c_f_sort S1 (cntB (prb S nl pb l) m) (by omega) (fun a b ha hb hab => by
    rw [(p1 a ha).1, (p1 b hb).1]
    intro q
    have h1 := selN_spec ha
    have h2 := selN_spec hb
    have := (nI_eq (by omega) (by omega)).mp q
    rw [← h1.2.2, ← h2.2.2, this] at hab
    exact hab rfl)) (fun r9 S2 hq9 => ?_)
  obtain ⟨rfl, g1, g2, s, g3, g4, g5⟩ := hq9
  show Wp _ _ _ [] _ _
  have hF2 : FrF S S2 := ⟨g1.trans f1.1, fun a i ha => (g2 a i (by omega)).trans (f1.2 a i ha)⟩
  have e7 : S2.1 6 7 = nI (cntB (prb S nl pb l) m) := (g2 6 7 (by omega)).trans f2
  obtain ⟨R0, hR0⟩ : ∃ R0 : Nat → Nat, R0 = fun j => selN (prb S nl pb l) m (s j) := ⟨_, rfl⟩
  have r1 : ∀ j, j < (cntB (prb S nl pb l) m) → S2.1 22 j = nI (R0 j) ∧ S2.1 23 j = (dcd S kind l c) (R0 j) := by
    intro j hj
    rw [(g4 j hj).1, (g4 j hj).2, hR0]
    exact p1 _ (g3.1 j hj)
  have r2 : Enm R0 (cntB (prb S nl pb l) m) (fun i => i < m ∧ (prb S nl pb l) i = true) (dcd S kind l c) := by
    refine ⟨fun j hj => ?_, fun i hi => ?_, fun a b hab hb => ?_⟩
    · have := selN_spec (g3.1 j hj)
      rw [hR0]
      exact ⟨this.1, this.2.1⟩
    · have hci := cntB_lt hi.1 hi.2
      obtain ⟨j, hj, e⟩ := g3.onto _ hci
      refine ⟨j, hj, ?_⟩
      rw [hR0]
      show selN (prb S nl pb l) m (s j) = i
      have h2 := selN_spec (g3.1 j hj)
      exact cntB_inj h2.2.1 hi.2 (by rw [h2.2.2, e])
    · have := g5 a b hab hb
      rw [(r1 a (by omega)).1, (r1 a (by omega)).2, (r1 b hb).1, (r1 b hb).2] at this
      exact this
  have r3 : ∀ j, j < (cntB (prb S nl pb l) m) → R0 j < m := fun j hj => (r2.1 j hj).1
  refine w_aload_n d_f_find_14 rfl ?_
  refine w_getIV (v := (nI rf)) d_f_find_15 FL_f_31 (by decide) (rfl) (rfl) ((hF2.2 6 6 (by omega)).trans hrf) ?_
  refine w_if_leN 49 d_f_find_18 (by decide) (by omega) (fun h18 => ?_) (fun h18 => ?_)
  · have hrf : rf = 0 := by omega
    refine h49 S2 _ R0 R0 hF2 e7 r2 (fun _ => rfl) (fun q => absurd q (by omega)) (fun j hj => ⟨r3 j (by omega), (r1 j (by omega)).1, ?_⟩)
    rw [if_pos hrf]
    exact (r1 j (by omega)).2
  · refine w_iload_n d_f_find_21 rfl ?_
    refine w_aload_n d_f_find_22 rfl ?_
    refine w_getIV (v := (nI rf)) d_f_find_23 FL_f_31 (by decide) (rfl) (rfl) ((hF2.2 6 6 (by omega)).trans hrf) ?_
    refine w_imulN d_f_find_26 ?_
    refine w_aload_n d_f_find_27 rfl ?_
    refine w_getIV (v := (nI ((cntB (prb S nl pb l) m)))) d_f_find_28 FL_f_45 (by decide) (rfl) (rfl) (e7) ?_
    refine w_callS2 (N := M_j_min) d_f_find_31 LK_f_52 MF_j_min MS_j_min NP_j_min (by decide) rfl (Nat.le_of_ble_eq_true rfl) ?_
    refine Ev.det (c_j_min _ _ _) ?_
    have hkr : kk * rf ≤ 24 := Nat.le_trans (Nat.mul_le_mul hk8 hrf3) (by decide)
    rw [minN (by omega) (by omega)]
    refine w_istore d_f_find_34 (Nat.le_of_ble_eq_true rfl) ?_
    refine w_aload_n d_f_find_36 rfl ?_
    refine w_aload_n d_f_find_37 rfl ?_
    refine w_iload d_f_find_38 rfl ?_
    show Wp _ 40 _ _ _ _
    refine w_callV2 (N := M_f_measure) d_f_find_40 LK_f_58 MF_f_measure MV_f_measure NP_f_measure (by decide) (by decide) (rfl) rfl rfl (Nat.le_of_ble_eq_true rfl) ?_
    refine Ev.det (c_f_measure S2 (min (kk * rf) (cntB (prb S nl pb l) m)) R0 (by omega) (fun j hj => ⟨(r1 j (by omega)).1, by have := r3 j (by omega); omega⟩) (by rw [hF2.1]; exact hT)) ?_
    have hx : ∀ j, j < (min (kk * rf) (cntB (prb S nl pb l) m)) → exd S2 (R0 j) = exd S (R0 j) := fun j hj => exd_keep hF2 (hT _ (by have := r3 j (by omega); omega))
    refine w_aload_n d_f_find_43 rfl ?_
    refine w_iload d_f_find_44 rfl ?_
    refine w_callV1 (N := M_f_sort) d_f_find_46 LK_f_48 MF_f_sort MV_f_sort NP_f_sort (by decide) (by decide) (rfl) rfl rfl (Nat.le_of_ble_eq_true rfl) ?_
    refine Ev.mono (c_f_sort (setRow S2 23 (fun j => exd S2 (R0 j)) (min (kk * rf) (cntB (prb S nl pb l) m))) (min (kk * rf) (cntB (prb S nl pb l) m)) (by omega) (fun a b ha hb hab => by
      rw [setRow_ne (by omega), setRow_ne (by omega), (r1 a (by omega)).1, (r1 b (by omega)).1]
      intro q
      have h1 := r3 a (by omega)
      have h2 := r3 b (by omega)
      exact hab (r2.inj (by omega) (by omega) ((nI_eq (by omega) (by omega)).mp q)))) (fun r9 S4 hq9 => ?_)
    obtain ⟨rfl, u1, u2, s2, u3, u4, u5⟩ := hq9
    show Wp _ _ _ [] _ _
    have w1 : ∀ j, j < (min (kk * rf) (cntB (prb S nl pb l) m)) → S4.1 22 j = nI (R0 (s2 j)) ∧ S4.1 23 j = exd S (R0 (s2 j)) := by
      intro j hj
      have hsj := u3.1 j hj
      rw [(u4 j hj).1, (u4 j hj).2, setRow_ne (by omega), setRow_at hsj]
      exact ⟨(r1 _ (by omega)).1, hx _ hsj⟩
    have hk1 : kk ≤ kk * rf := Nat.le_mul_of_pos_right kk h18
    refine h49 S4 _ R0 (fun j => R0 (s2 j)) ⟨u1.trans hF2.1, fun a i ha => ?_⟩ ?_ r2 (fun q => absurd q (by omega)) (fun _ => ⟨fun j hj => ⟨s2 j, u3.1 j hj, rfl⟩, fun i hi => ?_, fun a b hab hb => ?_⟩) (fun j hj => ⟨r3 _ (by have := u3.1 j (by omega); omega), (w1 j (by omega)).1, ?_⟩)
    · rw [u2 a i (by omega), setRow_ne (by omega)]
      exact hF2.2 a i ha
    · rw [u2 6 7 (by omega), setRow_ne (by omega)]
      exact e7
    · obtain ⟨j, hj, e⟩ := hi
      obtain ⟨j2, hj2, e2⟩ := u3.onto j hj
      exact ⟨j2, hj2, by show R0 (s2 j2) = i; rw [e2, e]⟩
    · have := u5 a b hab hb
      rw [(w1 a (by omega)).1, (w1 a (by omega)).2, (w1 b hb).1, (w1 b hb).2] at this
      exact this
    · rw [if_neg (by omega)]
      exact (w1 j (by omega)).2
end
