section
-- ===== PART A: goes FIRST, ahead of the names: the tables' words, and 'selects' of the private methods out of them =====
/-- a private method of a class that the tables say can be made, by its rows of tables_1 -/
def lw_okq (q : MethodName × Nat) : Prop := (q.1.cls ≠ "java/lang/invoke/MethodHandle" ∧ q.1.cls ≠ "java/lang/invoke/VarHandle") ∧ Cond.instantiable q.1.cls q.2 ∈ tables_1 ∧ Cond.privateMethod q.1 ∈ tables_1 ∧ Cond.instanceMethod q.1 ∈ tables_1
theorem lw_p0 : lw_okq (⟨"QuantisedLists", "learnCentres", "(I)V"⟩, 7) := ⟨⟨by decide +kernel, by decide +kernel⟩, List.mem_of_getElem? (i := 13) (by decide +kernel), List.mem_of_getElem? (i := 293) (by decide +kernel), List.mem_of_getElem? (i := 294) (by decide +kernel)⟩
theorem lw_p1 : lw_okq (⟨"QuantisedLists$Clustering", "chooseCentres", "()V"⟩, 9) := ⟨⟨by decide +kernel, by decide +kernel⟩, List.mem_of_getElem? (i := 49) (by decide +kernel), List.mem_of_getElem? (i := 305) (by decide +kernel), List.mem_of_getElem? (i := 306) (by decide +kernel)⟩
theorem lw_p2 : lw_okq (⟨"QuantisedLists$Clustering", "beginCentre", "(II)V"⟩, 9) := ⟨⟨by decide +kernel, by decide +kernel⟩, List.mem_of_getElem? (i := 49) (by decide +kernel), List.mem_of_getElem? (i := 309) (by decide +kernel), List.mem_of_getElem? (i := 310) (by decide +kernel)⟩
theorem lw_p3 : lw_okq (⟨"QuantisedLists$Clustering", "farthestItem", "(I)I"⟩, 9) := ⟨⟨by decide +kernel, by decide +kernel⟩, List.mem_of_getElem? (i := 49) (by decide +kernel), List.mem_of_getElem? (i := 313) (by decide +kernel), List.mem_of_getElem? (i := 314) (by decide +kernel)⟩
theorem lw_p4 : lw_okq (⟨"QuantisedLists$Clustering", "countMembers", "()V"⟩, 9) := ⟨⟨by decide +kernel, by decide +kernel⟩, List.mem_of_getElem? (i := 49) (by decide +kernel), List.mem_of_getElem? (i := 324) (by decide +kernel), List.mem_of_getElem? (i := 325) (by decide +kernel)⟩
theorem lw_p5 : lw_okq (⟨"QuantisedLists$Clustering", "moveToMeans", "()V"⟩, 9) := ⟨⟨by decide +kernel, by decide +kernel⟩, List.mem_of_getElem? (i := 49) (by decide +kernel), List.mem_of_getElem? (i := 328) (by decide +kernel), List.mem_of_getElem? (i := 329) (by decide +kernel)⟩
theorem lw_p6 : lw_okq (⟨"QuantisedLists$Clustering", "fillEmptyCentres", "()V"⟩, 9) := ⟨⟨by decide +kernel, by decide +kernel⟩, List.mem_of_getElem? (i := 49) (by decide +kernel), List.mem_of_getElem? (i := 335) (by decide +kernel), List.mem_of_getElem? (i := 336) (by decide +kernel)⟩
theorem lw_p7 : lw_okq (⟨"QuantisedLists$Clustering", "greatestShare", "()I"⟩, 9) := ⟨⟨by decide +kernel, by decide +kernel⟩, List.mem_of_getElem? (i := 49) (by decide +kernel), List.mem_of_getElem? (i := 339) (by decide +kernel), List.mem_of_getElem? (i := 340) (by decide +kernel)⟩
theorem lw_p8 : lw_okq (⟨"QuantisedLists$Clustering", "splitInto", "(II)V"⟩, 9) := ⟨⟨by decide +kernel, by decide +kernel⟩, List.mem_of_getElem? (i := 49) (by decide +kernel), List.mem_of_getElem? (i := 343) (by decide +kernel), List.mem_of_getElem? (i := 344) (by decide +kernel)⟩
theorem lw_p9 : lw_okq (⟨"QuantisedLists", "keepWhatIsLeft", "()V"⟩, 7) := ⟨⟨by decide +kernel, by decide +kernel⟩, List.mem_of_getElem? (i := 13) (by decide +kernel), List.mem_of_getElem? (i := 351) (by decide +kernel), List.mem_of_getElem? (i := 352) (by decide +kernel)⟩
theorem lw_p10 : lw_okq (⟨"QuantisedLists", "learnWords", "(I)V"⟩, 7) := ⟨⟨by decide +kernel, by decide +kernel⟩, List.mem_of_getElem? (i := 13) (by decide +kernel), List.mem_of_getElem? (i := 363) (by decide +kernel), List.mem_of_getElem? (i := 364) (by decide +kernel)⟩
theorem lw_p11 : lw_okq (⟨"QuantisedLists", "trainingError", "()I"⟩, 7) := ⟨⟨by decide +kernel, by decide +kernel⟩, List.mem_of_getElem? (i := 13) (by decide +kernel), List.mem_of_getElem? (i := 395) (by decide +kernel), List.mem_of_getElem? (i := 396) (by decide +kernel)⟩
theorem lw_p12 : lw_okq (⟨"QuantisedLists", "putEntry", "(IIIII)I"⟩, 7) := ⟨⟨by decide +kernel, by decide +kernel⟩, List.mem_of_getElem? (i := 13) (by decide +kernel), List.mem_of_getElem? (i := 435) (by decide +kernel), List.mem_of_getElem? (i := 436) (by decide +kernel)⟩
theorem lw_p13 : lw_okq (⟨"QuantisedLists$Finder", "lookThrough", "(LQuantisedLists$Quantiser;LQuantisedLists$EntryTable;)V"⟩, 9) := ⟨⟨by decide +kernel, by decide +kernel⟩, List.mem_of_getElem? (i := 171) (by decide +kernel), List.mem_of_getElem? (i := 490) (by decide +kernel), List.mem_of_getElem? (i := 491) (by decide +kernel)⟩
theorem lw_p14 : lw_okq (⟨"QuantisedLists$Finder", "sort", "(I)V"⟩, 9) := ⟨⟨by decide +kernel, by decide +kernel⟩, List.mem_of_getElem? (i := 171) (by decide +kernel), List.mem_of_getElem? (i := 503) (by decide +kernel), List.mem_of_getElem? (i := 504) (by decide +kernel)⟩
theorem lw_p15 : lw_okq (⟨"QuantisedLists$Finder", "isBefore", "(III)Z"⟩, 9) := ⟨⟨by decide +kernel, by decide +kernel⟩, List.mem_of_getElem? (i := 171) (by decide +kernel), List.mem_of_getElem? (i := 507) (by decide +kernel), List.mem_of_getElem? (i := 508) (by decide +kernel)⟩
def lw_privs_1 : List (MethodName × Nat) := [(⟨"QuantisedLists", "learnCentres", "(I)V"⟩, 7), (⟨"QuantisedLists$Clustering", "chooseCentres", "()V"⟩, 9), (⟨"QuantisedLists$Clustering", "beginCentre", "(II)V"⟩, 9), (⟨"QuantisedLists$Clustering", "farthestItem", "(I)I"⟩, 9), (⟨"QuantisedLists$Clustering", "countMembers", "()V"⟩, 9), (⟨"QuantisedLists$Clustering", "moveToMeans", "()V"⟩, 9), (⟨"QuantisedLists$Clustering", "fillEmptyCentres", "()V"⟩, 9), (⟨"QuantisedLists$Clustering", "greatestShare", "()I"⟩, 9), (⟨"QuantisedLists$Clustering", "splitInto", "(II)V"⟩, 9), (⟨"QuantisedLists", "keepWhatIsLeft", "()V"⟩, 7), (⟨"QuantisedLists", "learnWords", "(I)V"⟩, 7), (⟨"QuantisedLists", "trainingError", "()I"⟩, 7), (⟨"QuantisedLists", "putEntry", "(IIIII)I"⟩, 7), (⟨"QuantisedLists$Finder", "lookThrough", "(LQuantisedLists$Quantiser;LQuantisedLists$EntryTable;)V"⟩, 9), (⟨"QuantisedLists$Finder", "sort", "(I)V"⟩, 9), (⟨"QuantisedLists$Finder", "isBefore", "(III)Z"⟩, 9)]
theorem lw_r1 : ∀ q ∈ lw_privs_1, lw_okq q := List.forall_mem_cons.mpr ⟨lw_p0, List.forall_mem_cons.mpr ⟨lw_p1, List.forall_mem_cons.mpr ⟨lw_p2, List.forall_mem_cons.mpr ⟨lw_p3, List.forall_mem_cons.mpr ⟨lw_p4, List.forall_mem_cons.mpr ⟨lw_p5, List.forall_mem_cons.mpr ⟨lw_p6, List.forall_mem_cons.mpr ⟨lw_p7, List.forall_mem_cons.mpr ⟨lw_p8, List.forall_mem_cons.mpr ⟨lw_p9, List.forall_mem_cons.mpr ⟨lw_p10, List.forall_mem_cons.mpr ⟨lw_p11, List.forall_mem_cons.mpr ⟨lw_p12, List.forall_mem_cons.mpr ⟨lw_p13, List.forall_mem_cons.mpr ⟨lw_p14, List.forall_mem_cons.mpr ⟨lw_p15, fun _ h => absurd h List.not_mem_nil⟩⟩⟩⟩⟩⟩⟩⟩⟩⟩⟩⟩⟩⟩⟩⟩
theorem lw_p16 : lw_okq (⟨"QuantisedLists$Finder", "measure", "(LQuantisedLists$EntryTable;I)V"⟩, 9) := ⟨⟨by decide +kernel, by decide +kernel⟩, List.mem_of_getElem? (i := 171) (by decide +kernel), List.mem_of_getElem? (i := 512) (by decide +kernel), List.mem_of_getElem? (i := 513) (by decide +kernel)⟩
theorem lw_p17 : lw_okq (⟨"QuantisedLists$Finder", "keepIds", "(LQuantisedLists$EntryTable;)V"⟩, 9) := ⟨⟨by decide +kernel, by decide +kernel⟩, List.mem_of_getElem? (i := 171) (by decide +kernel), List.mem_of_getElem? (i := 517) (by decide +kernel), List.mem_of_getElem? (i := 518) (by decide +kernel)⟩
theorem lw_p18 : lw_okq (⟨"QuantisedLists", "writeHead", "()V"⟩, 7) := ⟨⟨by decide +kernel, by decide +kernel⟩, List.mem_of_getElem? (i := 13) (by decide +kernel), List.mem_of_getElem? (i := 542) (by decide +kernel), List.mem_of_getElem? (i := 543) (by decide +kernel)⟩
theorem lw_p19 : lw_okq (⟨"QuantisedLists", "writeCentres", "()V"⟩, 7) := ⟨⟨by decide +kernel, by decide +kernel⟩, List.mem_of_getElem? (i := 13) (by decide +kernel), List.mem_of_getElem? (i := 550) (by decide +kernel), List.mem_of_getElem? (i := 551) (by decide +kernel)⟩
theorem lw_p20 : lw_okq (⟨"QuantisedLists", "writeWords", "()V"⟩, 7) := ⟨⟨by decide +kernel, by decide +kernel⟩, List.mem_of_getElem? (i := 13) (by decide +kernel), List.mem_of_getElem? (i := 559) (by decide +kernel), List.mem_of_getElem? (i := 560) (by decide +kernel)⟩
theorem lw_p21 : lw_okq (⟨"QuantisedLists", "writeEntries", "()V"⟩, 7) := ⟨⟨by decide +kernel, by decide +kernel⟩, List.mem_of_getElem? (i := 13) (by decide +kernel), List.mem_of_getElem? (i := 563) (by decide +kernel), List.mem_of_getElem? (i := 564) (by decide +kernel)⟩
theorem lw_p22 : lw_okq (⟨"QuantisedLists$ByteFile", "hasSizes", "()Z"⟩, 2) := ⟨⟨by decide +kernel, by decide +kernel⟩, List.mem_of_getElem? (i := 213) (by decide +kernel), List.mem_of_getElem? (i := 591) (by decide +kernel), List.mem_of_getElem? (i := 592) (by decide +kernel)⟩
theorem lw_p23 : lw_okq (⟨"QuantisedLists$ByteFile", "entryStart", "(I)I"⟩, 2) := ⟨⟨by decide +kernel, by decide +kernel⟩, List.mem_of_getElem? (i := 213) (by decide +kernel), List.mem_of_getElem? (i := 601) (by decide +kernel), List.mem_of_getElem? (i := 602) (by decide +kernel)⟩
theorem lw_p24 : lw_okq (⟨"QuantisedLists$ByteFile", "wideCount", "()I"⟩, 2) := ⟨⟨by decide +kernel, by decide +kernel⟩, List.mem_of_getElem? (i := 213) (by decide +kernel), List.mem_of_getElem? (i := 605) (by decide +kernel), List.mem_of_getElem? (i := 606) (by decide +kernel)⟩
theorem lw_p25 : lw_okq (⟨"QuantisedLists$ByteFile", "hasWides", "()Z"⟩, 2) := ⟨⟨by decide +kernel, by decide +kernel⟩, List.mem_of_getElem? (i := 213) (by decide +kernel), List.mem_of_getElem? (i := 610) (by decide +kernel), List.mem_of_getElem? (i := 611) (by decide +kernel)⟩
theorem lw_p26 : lw_okq (⟨"QuantisedLists$ByteFile", "pairAt", "(I)I"⟩, 2) := ⟨⟨by decide +kernel, by decide +kernel⟩, List.mem_of_getElem? (i := 213) (by decide +kernel), List.mem_of_getElem? (i := 618) (by decide +kernel), List.mem_of_getElem? (i := 619) (by decide +kernel)⟩
theorem lw_p27 : lw_okq (⟨"QuantisedLists$ByteFile", "hasEntries", "()Z"⟩, 2) := ⟨⟨by decide +kernel, by decide +kernel⟩, List.mem_of_getElem? (i := 213) (by decide +kernel), List.mem_of_getElem? (i := 622) (by decide +kernel), List.mem_of_getElem? (i := 623) (by decide +kernel)⟩
theorem lw_p28 : lw_okq (⟨"QuantisedLists$ByteFile", "hasPoint", "(I)Z"⟩, 2) := ⟨⟨by decide +kernel, by decide +kernel⟩, List.mem_of_getElem? (i := 213) (by decide +kernel), List.mem_of_getElem? (i := 630) (by decide +kernel), List.mem_of_getElem? (i := 631) (by decide +kernel)⟩
theorem lw_p29 : lw_okq (⟨"QuantisedLists", "readHead", "()V"⟩, 7) := ⟨⟨by decide +kernel, by decide +kernel⟩, List.mem_of_getElem? (i := 13) (by decide +kernel), List.mem_of_getElem? (i := 638) (by decide +kernel), List.mem_of_getElem? (i := 639) (by decide +kernel)⟩
theorem lw_p30 : lw_okq (⟨"QuantisedLists", "readCentres", "()V"⟩, 7) := ⟨⟨by decide +kernel, by decide +kernel⟩, List.mem_of_getElem? (i := 13) (by decide +kernel), List.mem_of_getElem? (i := 643) (by decide +kernel), List.mem_of_getElem? (i := 644) (by decide +kernel)⟩
theorem lw_p31 : lw_okq (⟨"QuantisedLists", "readWords", "()V"⟩, 7) := ⟨⟨by decide +kernel, by decide +kernel⟩, List.mem_of_getElem? (i := 13) (by decide +kernel), List.mem_of_getElem? (i := 648) (by decide +kernel), List.mem_of_getElem? (i := 649) (by decide +kernel)⟩
def lw_privs_2 : List (MethodName × Nat) := [(⟨"QuantisedLists$Finder", "measure", "(LQuantisedLists$EntryTable;I)V"⟩, 9), (⟨"QuantisedLists$Finder", "keepIds", "(LQuantisedLists$EntryTable;)V"⟩, 9), (⟨"QuantisedLists", "writeHead", "()V"⟩, 7), (⟨"QuantisedLists", "writeCentres", "()V"⟩, 7), (⟨"QuantisedLists", "writeWords", "()V"⟩, 7), (⟨"QuantisedLists", "writeEntries", "()V"⟩, 7), (⟨"QuantisedLists$ByteFile", "hasSizes", "()Z"⟩, 2), (⟨"QuantisedLists$ByteFile", "entryStart", "(I)I"⟩, 2), (⟨"QuantisedLists$ByteFile", "wideCount", "()I"⟩, 2), (⟨"QuantisedLists$ByteFile", "hasWides", "()Z"⟩, 2), (⟨"QuantisedLists$ByteFile", "pairAt", "(I)I"⟩, 2), (⟨"QuantisedLists$ByteFile", "hasEntries", "()Z"⟩, 2), (⟨"QuantisedLists$ByteFile", "hasPoint", "(I)Z"⟩, 2), (⟨"QuantisedLists", "readHead", "()V"⟩, 7), (⟨"QuantisedLists", "readCentres", "()V"⟩, 7), (⟨"QuantisedLists", "readWords", "()V"⟩, 7)]
theorem lw_r2 : ∀ q ∈ lw_privs_2, lw_okq q := List.forall_mem_cons.mpr ⟨lw_p16, List.forall_mem_cons.mpr ⟨lw_p17, List.forall_mem_cons.mpr ⟨lw_p18, List.forall_mem_cons.mpr ⟨lw_p19, List.forall_mem_cons.mpr ⟨lw_p20, List.forall_mem_cons.mpr ⟨lw_p21, List.forall_mem_cons.mpr ⟨lw_p22, List.forall_mem_cons.mpr ⟨lw_p23, List.forall_mem_cons.mpr ⟨lw_p24, List.forall_mem_cons.mpr ⟨lw_p25, List.forall_mem_cons.mpr ⟨lw_p26, List.forall_mem_cons.mpr ⟨lw_p27, List.forall_mem_cons.mpr ⟨lw_p28, List.forall_mem_cons.mpr ⟨lw_p29, List.forall_mem_cons.mpr ⟨lw_p30, List.forall_mem_cons.mpr ⟨lw_p31, fun _ h => absurd h List.not_mem_nil⟩⟩⟩⟩⟩⟩⟩⟩⟩⟩⟩⟩⟩⟩⟩⟩
theorem lw_p32 : lw_okq (⟨"QuantisedLists", "readEntries", "()V"⟩, 7) := ⟨⟨by decide +kernel, by decide +kernel⟩, List.mem_of_getElem? (i := 13) (by decide +kernel), List.mem_of_getElem? (i := 652) (by decide +kernel), List.mem_of_getElem? (i := 653) (by decide +kernel)⟩
theorem lw_p33 : lw_okq (⟨"QuantisedListsModel", "give", "(IIII)Z"⟩, 33) := ⟨⟨by decide +kernel, by decide +kernel⟩, List.mem_of_getElem? (i := 658) (by decide +kernel), List.mem_of_getElem? (i := 779) (by decide +kernel), List.mem_of_getElem? (i := 780) (by decide +kernel)⟩
theorem lw_p34 : lw_okq (⟨"QuantisedListsModel", "turnIt", "()V"⟩, 33) := ⟨⟨by decide +kernel, by decide +kernel⟩, List.mem_of_getElem? (i := 658) (by decide +kernel), List.mem_of_getElem? (i := 790) (by decide +kernel), List.mem_of_getElem? (i := 791) (by decide +kernel)⟩
theorem lw_p35 : lw_okq (⟨"QuantisedListsModel", "cluster", "(III)V"⟩, 33) := ⟨⟨by decide +kernel, by decide +kernel⟩, List.mem_of_getElem? (i := 658) (by decide +kernel), List.mem_of_getElem? (i := 794) (by decide +kernel), List.mem_of_getElem? (i := 795) (by decide +kernel)⟩
theorem lw_p36 : lw_okq (⟨"QuantisedListsModel", "nearest", "(III)I"⟩, 33) := ⟨⟨by decide +kernel, by decide +kernel⟩, List.mem_of_getElem? (i := 658) (by decide +kernel), List.mem_of_getElem? (i := 798) (by decide +kernel), List.mem_of_getElem? (i := 799) (by decide +kernel)⟩
theorem lw_p37 : lw_okq (⟨"QuantisedListsModel", "gap", "(III)I"⟩, 33) := ⟨⟨by decide +kernel, by decide +kernel⟩, List.mem_of_getElem? (i := 658) (by decide +kernel), List.mem_of_getElem? (i := 802) (by decide +kernel), List.mem_of_getElem? (i := 803) (by decide +kernel)⟩
theorem lw_p38 : lw_okq (⟨"QuantisedListsModel", "mean", "(II)V"⟩, 33) := ⟨⟨by decide +kernel, by decide +kernel⟩, List.mem_of_getElem? (i := 658) (by decide +kernel), List.mem_of_getElem? (i := 806) (by decide +kernel), List.mem_of_getElem? (i := 807) (by decide +kernel)⟩
theorem lw_p39 : lw_okq (⟨"QuantisedListsModel", "fill", "(II)V"⟩, 33) := ⟨⟨by decide +kernel, by decide +kernel⟩, List.mem_of_getElem? (i := 658) (by decide +kernel), List.mem_of_getElem? (i := 813) (by decide +kernel), List.mem_of_getElem? (i := 814) (by decide +kernel)⟩
theorem lw_p40 : lw_okq (⟨"QuantisedListsModel", "hasMember", "(I)Z"⟩, 33) := ⟨⟨by decide +kernel, by decide +kernel⟩, List.mem_of_getElem? (i := 658) (by decide +kernel), List.mem_of_getElem? (i := 817) (by decide +kernel), List.mem_of_getElem? (i := 818) (by decide +kernel)⟩
theorem lw_p41 : lw_okq (⟨"QuantisedListsModel", "parts", "()I"⟩, 33) := ⟨⟨by decide +kernel, by decide +kernel⟩, List.mem_of_getElem? (i := 658) (by decide +kernel), List.mem_of_getElem? (i := 821) (by decide +kernel), List.mem_of_getElem? (i := 822) (by decide +kernel)⟩
theorem lw_p42 : lw_okq (⟨"QuantisedListsModel", "learn", "(II)V"⟩, 33) := ⟨⟨by decide +kernel, by decide +kernel⟩, List.mem_of_getElem? (i := 658) (by decide +kernel), List.mem_of_getElem? (i := 825) (by decide +kernel), List.mem_of_getElem? (i := 826) (by decide +kernel)⟩
theorem lw_p43 : lw_okq (⟨"QuantisedListsModel", "spread", "(I)V"⟩, 33) := ⟨⟨by decide +kernel, by decide +kernel⟩, List.mem_of_getElem? (i := 658) (by decide +kernel), List.mem_of_getElem? (i := 829) (by decide +kernel), List.mem_of_getElem? (i := 830) (by decide +kernel)⟩
theorem lw_p44 : lw_okq (⟨"QuantisedListsModel", "loss", "()I"⟩, 33) := ⟨⟨by decide +kernel, by decide +kernel⟩, List.mem_of_getElem? (i := 658) (by decide +kernel), List.mem_of_getElem? (i := 833) (by decide +kernel), List.mem_of_getElem? (i := 834) (by decide +kernel)⟩
theorem lw_p45 : lw_okq (⟨"QuantisedListsModel", "nearestWord", "(I)I"⟩, 33) := ⟨⟨by decide +kernel, by decide +kernel⟩, List.mem_of_getElem? (i := 658) (by decide +kernel), List.mem_of_getElem? (i := 837) (by decide +kernel), List.mem_of_getElem? (i := 838) (by decide +kernel)⟩
theorem lw_p46 : lw_okq (⟨"QuantisedListsModel", "wordGap", "(II)I"⟩, 33) := ⟨⟨by decide +kernel, by decide +kernel⟩, List.mem_of_getElem? (i := 658) (by decide +kernel), List.mem_of_getElem? (i := 841) (by decide +kernel), List.mem_of_getElem? (i := 842) (by decide +kernel)⟩
theorem lw_p47 : lw_okq (⟨"QuantisedListsModel", "size", "()I"⟩, 33) := ⟨⟨by decide +kernel, by decide +kernel⟩, List.mem_of_getElem? (i := 658) (by decide +kernel), List.mem_of_getElem? (i := 845) (by decide +kernel), List.mem_of_getElem? (i := 846) (by decide +kernel)⟩
def lw_privs_3 : List (MethodName × Nat) := [(⟨"QuantisedLists", "readEntries", "()V"⟩, 7), (⟨"QuantisedListsModel", "give", "(IIII)Z"⟩, 33), (⟨"QuantisedListsModel", "turnIt", "()V"⟩, 33), (⟨"QuantisedListsModel", "cluster", "(III)V"⟩, 33), (⟨"QuantisedListsModel", "nearest", "(III)I"⟩, 33), (⟨"QuantisedListsModel", "gap", "(III)I"⟩, 33), (⟨"QuantisedListsModel", "mean", "(II)V"⟩, 33), (⟨"QuantisedListsModel", "fill", "(II)V"⟩, 33), (⟨"QuantisedListsModel", "hasMember", "(I)Z"⟩, 33), (⟨"QuantisedListsModel", "parts", "()I"⟩, 33), (⟨"QuantisedListsModel", "learn", "(II)V"⟩, 33), (⟨"QuantisedListsModel", "spread", "(I)V"⟩, 33), (⟨"QuantisedListsModel", "loss", "()I"⟩, 33), (⟨"QuantisedListsModel", "nearestWord", "(I)I"⟩, 33), (⟨"QuantisedListsModel", "wordGap", "(II)I"⟩, 33), (⟨"QuantisedListsModel", "size", "()I"⟩, 33)]
theorem lw_r3 : ∀ q ∈ lw_privs_3, lw_okq q := List.forall_mem_cons.mpr ⟨lw_p32, List.forall_mem_cons.mpr ⟨lw_p33, List.forall_mem_cons.mpr ⟨lw_p34, List.forall_mem_cons.mpr ⟨lw_p35, List.forall_mem_cons.mpr ⟨lw_p36, List.forall_mem_cons.mpr ⟨lw_p37, List.forall_mem_cons.mpr ⟨lw_p38, List.forall_mem_cons.mpr ⟨lw_p39, List.forall_mem_cons.mpr ⟨lw_p40, List.forall_mem_cons.mpr ⟨lw_p41, List.forall_mem_cons.mpr ⟨lw_p42, List.forall_mem_cons.mpr ⟨lw_p43, List.forall_mem_cons.mpr ⟨lw_p44, List.forall_mem_cons.mpr ⟨lw_p45, List.forall_mem_cons.mpr ⟨lw_p46, List.forall_mem_cons.mpr ⟨lw_p47, fun _ h => absurd h List.not_mem_nil⟩⟩⟩⟩⟩⟩⟩⟩⟩⟩⟩⟩⟩⟩⟩⟩
theorem lw_p48 : lw_okq (⟨"QuantisedListsModel", "listNow", "()I"⟩, 33) := ⟨⟨by decide +kernel, by decide +kernel⟩, List.mem_of_getElem? (i := 658) (by decide +kernel), List.mem_of_getElem? (i := 861) (by decide +kernel), List.mem_of_getElem? (i := 862) (by decide +kernel)⟩
theorem lw_p49 : lw_okq (⟨"QuantisedListsModel", "away", "(I)I"⟩, 33) := ⟨⟨by decide +kernel, by decide +kernel⟩, List.mem_of_getElem? (i := 658) (by decide +kernel), List.mem_of_getElem? (i := 865) (by decide +kernel), List.mem_of_getElem? (i := 866) (by decide +kernel)⟩
theorem lw_p50 : lw_okq (⟨"QuantisedListsModel", "there", "(I)Z"⟩, 33) := ⟨⟨by decide +kernel, by decide +kernel⟩, List.mem_of_getElem? (i := 658) (by decide +kernel), List.mem_of_getElem? (i := 873) (by decide +kernel), List.mem_of_getElem? (i := 874) (by decide +kernel)⟩
theorem lw_p51 : lw_okq (⟨"QuantisedListsModel", "turnEntry", "(I)V"⟩, 33) := ⟨⟨by decide +kernel, by decide +kernel⟩, List.mem_of_getElem? (i := 658) (by decide +kernel), List.mem_of_getElem? (i := 881) (by decide +kernel), List.mem_of_getElem? (i := 882) (by decide +kernel)⟩
theorem lw_p52 : lw_okq (⟨"QuantisedListsModel", "leave", "(I)V"⟩, 33) := ⟨⟨by decide +kernel, by decide +kernel⟩, List.mem_of_getElem? (i := 658) (by decide +kernel), List.mem_of_getElem? (i := 889) (by decide +kernel), List.mem_of_getElem? (i := 890) (by decide +kernel)⟩
theorem lw_p53 : lw_okq (⟨"QuantisedListsModel", "measure", "(I)V"⟩, 33) := ⟨⟨by decide +kernel, by decide +kernel⟩, List.mem_of_getElem? (i := 658) (by decide +kernel), List.mem_of_getElem? (i := 905) (by decide +kernel), List.mem_of_getElem? (i := 906) (by decide +kernel)⟩
theorem lw_p54 : lw_okq (⟨"QuantisedListsModel", "probed", "(I)Z"⟩, 33) := ⟨⟨by decide +kernel, by decide +kernel⟩, List.mem_of_getElem? (i := 658) (by decide +kernel), List.mem_of_getElem? (i := 909) (by decide +kernel), List.mem_of_getElem? (i := 910) (by decide +kernel)⟩
theorem lw_p55 : lw_okq (⟨"QuantisedListsModel", "rank", "(I)I"⟩, 33) := ⟨⟨by decide +kernel, by decide +kernel⟩, List.mem_of_getElem? (i := 658) (by decide +kernel), List.mem_of_getElem? (i := 913) (by decide +kernel), List.mem_of_getElem? (i := 914) (by decide +kernel)⟩
theorem lw_p56 : lw_okq (⟨"QuantisedListsModel", "exactRank", "(I)I"⟩, 33) := ⟨⟨by decide +kernel, by decide +kernel⟩, List.mem_of_getElem? (i := 658) (by decide +kernel), List.mem_of_getElem? (i := 917) (by decide +kernel), List.mem_of_getElem? (i := 918) (by decide +kernel)⟩
theorem lw_p57 : lw_okq (⟨"QuantisedListsModel", "put", "(I)V"⟩, 33) := ⟨⟨by decide +kernel, by decide +kernel⟩, List.mem_of_getElem? (i := 658) (by decide +kernel), List.mem_of_getElem? (i := 937) (by decide +kernel), List.mem_of_getElem? (i := 938) (by decide +kernel)⟩
theorem lw_p58 : lw_okq (⟨"QuantisedListsModel", "putTwo", "(I)V"⟩, 33) := ⟨⟨by decide +kernel, by decide +kernel⟩, List.mem_of_getElem? (i := 658) (by decide +kernel), List.mem_of_getElem? (i := 941) (by decide +kernel), List.mem_of_getElem? (i := 942) (by decide +kernel)⟩
theorem lw_p59 : lw_okq (⟨"QuantisedListsModel", "sum", "(I)I"⟩, 33) := ⟨⟨by decide +kernel, by decide +kernel⟩, List.mem_of_getElem? (i := 658) (by decide +kernel), List.mem_of_getElem? (i := 945) (by decide +kernel), List.mem_of_getElem? (i := 946) (by decide +kernel)⟩
theorem lw_p60 : lw_okq (⟨"QuantisedListsModel", "fault", "()I"⟩, 33) := ⟨⟨by decide +kernel, by decide +kernel⟩, List.mem_of_getElem? (i := 658) (by decide +kernel), List.mem_of_getElem? (i := 965) (by decide +kernel), List.mem_of_getElem? (i := 966) (by decide +kernel)⟩
theorem lw_p61 : lw_okq (⟨"QuantisedListsModel", "head", "()I"⟩, 33) := ⟨⟨by decide +kernel, by decide +kernel⟩, List.mem_of_getElem? (i := 658) (by decide +kernel), List.mem_of_getElem? (i := 969) (by decide +kernel), List.mem_of_getElem? (i := 970) (by decide +kernel)⟩
theorem lw_p62 : lw_okq (⟨"QuantisedListsModel", "two", "(I)I"⟩, 33) := ⟨⟨by decide +kernel, by decide +kernel⟩, List.mem_of_getElem? (i := 658) (by decide +kernel), List.mem_of_getElem? (i := 973) (by decide +kernel), List.mem_of_getElem? (i := 974) (by decide +kernel)⟩
def lw_privs_4 : List (MethodName × Nat) := [(⟨"QuantisedListsModel", "listNow", "()I"⟩, 33), (⟨"QuantisedListsModel", "away", "(I)I"⟩, 33), (⟨"QuantisedListsModel", "there", "(I)Z"⟩, 33), (⟨"QuantisedListsModel", "turnEntry", "(I)V"⟩, 33), (⟨"QuantisedListsModel", "leave", "(I)V"⟩, 33), (⟨"QuantisedListsModel", "measure", "(I)V"⟩, 33), (⟨"QuantisedListsModel", "probed", "(I)Z"⟩, 33), (⟨"QuantisedListsModel", "rank", "(I)I"⟩, 33), (⟨"QuantisedListsModel", "exactRank", "(I)I"⟩, 33), (⟨"QuantisedListsModel", "put", "(I)V"⟩, 33), (⟨"QuantisedListsModel", "putTwo", "(I)V"⟩, 33), (⟨"QuantisedListsModel", "sum", "(I)I"⟩, 33), (⟨"QuantisedListsModel", "fault", "()I"⟩, 33), (⟨"QuantisedListsModel", "head", "()I"⟩, 33), (⟨"QuantisedListsModel", "two", "(I)I"⟩, 33)]
theorem lw_r4 : ∀ q ∈ lw_privs_4, lw_okq q := List.forall_mem_cons.mpr ⟨lw_p48, List.forall_mem_cons.mpr ⟨lw_p49, List.forall_mem_cons.mpr ⟨lw_p50, List.forall_mem_cons.mpr ⟨lw_p51, List.forall_mem_cons.mpr ⟨lw_p52, List.forall_mem_cons.mpr ⟨lw_p53, List.forall_mem_cons.mpr ⟨lw_p54, List.forall_mem_cons.mpr ⟨lw_p55, List.forall_mem_cons.mpr ⟨lw_p56, List.forall_mem_cons.mpr ⟨lw_p57, List.forall_mem_cons.mpr ⟨lw_p58, List.forall_mem_cons.mpr ⟨lw_p59, List.forall_mem_cons.mpr ⟨lw_p60, List.forall_mem_cons.mpr ⟨lw_p61, List.forall_mem_cons.mpr ⟨lw_p62, fun _ h => absurd h List.not_mem_nil⟩⟩⟩⟩⟩⟩⟩⟩⟩⟩⟩⟩⟩⟩⟩
def lw_privs : List (MethodName × Nat) := lw_privs_1 ++ (lw_privs_2 ++ (lw_privs_3 ++ (lw_privs_4)))
def lw_tbl : List Cond := k2_sels lw_privs ++ tables_1
theorem lw_privs_ok : ∀ q ∈ lw_privs, lw_okq q := by
  show ∀ q ∈ lw_privs_1 ++ (lw_privs_2 ++ (lw_privs_3 ++ (lw_privs_4))), lw_okq q
  exact List.forall_mem_append.mpr ⟨lw_r1, List.forall_mem_append.mpr ⟨lw_r2, List.forall_mem_append.mpr ⟨lw_r3, lw_r4⟩⟩⟩
end
section
def isNest : Cond → Bool
  | .fieldLinkNest .. => true
  | .methodLinkNest .. => true
  | _ => false
/-- the tables' words that every contract carries, and the nest mates' words, which stand in its premise -/
def gtbl : List Cond := lw_tbl.filter goodWord
def ntbl : List Cond := lw_tbl.filter isNest
theorem tb {w : Cond} (i : Nat) (h : tables_1[i]? = some w) (g : goodWord w = true) : w ∈ gtbl := List.mem_filter.mpr ⟨List.mem_append_right _ (List.mem_of_getElem? h), g⟩
theorem tbn {w : Cond} (i : Nat) (h : tables_1[i]? = some w) (g : isNest w = true) : w ∈ ntbl := List.mem_filter.mpr ⟨List.mem_append_right _ (List.mem_of_getElem? h), g⟩
theorem tbs {y : MethodName} {n : Nat} (i : Nat) (h : lw_privs[i]? = some (y, n)) : Cond.selects y.cls y y ∈ gtbl := List.mem_filter.mpr ⟨List.mem_append_left _ (List.mem_map.mpr ⟨(y, n), List.mem_of_getElem? h, rfl⟩), rfl⟩
theorem zin {C : String} {T : u_T} {N : Nat} (ix : List Nat) (h : ∀ k, k < N → tables_1[ix.getD k 0]? = some (u_lay C T k)) : ∀ w ∈ u_ws C T N, w ∈ gtbl := by
  intro w hw
  obtain ⟨k, hk, rfl⟩ := List.mem_map.mp hw
  refine tb _ (h k (List.mem_range.mp hk)) ?_
  unfold u_lay
  split <;> rfl
abbrev Mt : Type := MethodName × ByteArray × Nat × Option FieldType × Nat × Nat
def zT0 : u_T := fun k => match k with
  | 0 => ("QuantisedLists", "axes", "LQuantisedLists$Turn;", true)
  | 1 => ("QuantisedLists", "samples", "LQuantisedLists$Samples;", true)
  | 2 => ("QuantisedLists", "clustering", "LQuantisedLists$Clustering;", true)
  | 3 => ("QuantisedLists", "quantiser", "LQuantisedLists$Quantiser;", true)
  | 4 => ("QuantisedLists", "table", "LQuantisedLists$EntryTable;", true)
  | 5 => ("QuantisedLists", "finder", "LQuantisedLists$Finder;", true)
  | _ => ("QuantisedLists", "file", "LQuantisedLists$ByteFile;", true)
def zty0 : Nat → FieldType := fun k => match k with
  | 0 => .object "QuantisedLists$Turn"
  | 1 => .object "QuantisedLists$Samples"
  | 2 => .object "QuantisedLists$Clustering"
  | 3 => .object "QuantisedLists$Quantiser"
  | 4 => .object "QuantisedLists$EntryTable"
  | 5 => .object "QuantisedLists$Finder"
  | _ => .object "QuantisedLists$ByteFile"
theorem zin0 : ∀ w ∈ u_ws "QuantisedLists" zT0 7, w ∈ gtbl := zin [234, 236, 238, 240, 242, 244, 246] (by decide +kernel)
theorem zok0 : ∀ k, k < 7 → parseFieldDescriptor (zT0 k).2.2.1 = some (zty0 k) := by decide +kernel
theorem znm0 : ∀ a, a < 7 → ∀ b, b < 7 → a ≠ b → (zT0 a).2.1 ≠ (zT0 b).2.1 := by decide +kernel
def zT1 : u_T := fun k => match k with
  | _ => ("QuantisedLists$Turn", "steps", "[I", true)
def zty1 : Nat → FieldType := fun k => match k with
  | _ => .array .int
theorem zin1 : ∀ w ∈ u_ws "QuantisedLists$Turn" zT1 1, w ∈ gtbl := zin [28] (by decide +kernel)
theorem zok1 : ∀ k, k < 1 → parseFieldDescriptor (zT1 k).2.2.1 = some (zty1 k) := by decide +kernel
theorem znm1 : ∀ a, a < 1 → ∀ b, b < 1 → a ≠ b → (zT1 a).2.1 ≠ (zT1 b).2.1 := by decide +kernel
def zT2 : u_T := fun k => match k with
  | 0 => ("QuantisedLists$Samples", "points", "[[I", true)
  | _ => ("QuantisedLists$Samples", "count", "I", false)
def zty2 : Nat → FieldType := fun k => match k with
  | 0 => .array (.array .int)
  | _ => .int
theorem zin2 : ∀ w ∈ u_ws "QuantisedLists$Samples" zT2 2, w ∈ gtbl := zin [43, 45] (by decide +kernel)
theorem zok2 : ∀ k, k < 2 → parseFieldDescriptor (zT2 k).2.2.1 = some (zty2 k) := by decide +kernel
theorem znm2 : ∀ a, a < 2 → ∀ b, b < 2 → a ≠ b → (zT2 a).2.1 ≠ (zT2 b).2.1 := by decide +kernel
def zT3 : u_T := fun k => match k with
  | 0 => ("QuantisedLists$Clustering", "items", "[[I", true)
  | 1 => ("QuantisedLists$Clustering", "centres", "[[I", true)
  | 2 => ("QuantisedLists$Clustering", "sums", "[[I", true)
  | 3 => ("QuantisedLists$Clustering", "members", "[I", true)
  | 4 => ("QuantisedLists$Clustering", "shares", "[I", true)
  | 5 => ("QuantisedLists$Clustering", "size", "I", false)
  | 6 => ("QuantisedLists$Clustering", "from", "I", false)
  | 7 => ("QuantisedLists$Clustering", "width", "I", false)
  | _ => ("QuantisedLists$Clustering", "count", "I", false)
def zty3 : Nat → FieldType := fun k => match k with
  | 0 => .array (.array .int)
  | 1 => .array (.array .int)
  | 2 => .array (.array .int)
  | 3 => .array .int
  | 4 => .array .int
  | 5 => .int
  | 6 => .int
  | 7 => .int
  | _ => .int
theorem zin3 : ∀ w ∈ u_ws "QuantisedLists$Clustering" zT3 9, w ∈ gtbl := zin [66, 68, 70, 72, 74, 76, 78, 80, 82] (by decide +kernel)
theorem zok3 : ∀ k, k < 9 → parseFieldDescriptor (zT3 k).2.2.1 = some (zty3 k) := by decide +kernel
theorem znm3 : ∀ a, a < 9 → ∀ b, b < 9 → a ≠ b → (zT3 a).2.1 ≠ (zT3 b).2.1 := by decide +kernel
def zT4 : u_T := fun k => match k with
  | 0 => ("QuantisedLists$Quantiser", "centres", "[[I", true)
  | 1 => ("QuantisedLists$Quantiser", "words", "[[I", true)
  | 2 => ("QuantisedLists$Quantiser", "left", "[I", true)
  | 3 => ("QuantisedLists$Quantiser", "trained", "Z", false)
  | 4 => ("QuantisedLists$Quantiser", "kind", "I", false)
  | 5 => ("QuantisedLists$Quantiser", "lists", "I", false)
  | _ => ("QuantisedLists$Quantiser", "codes", "I", false)
def zty4 : Nat → FieldType := fun k => match k with
  | 0 => .array (.array .int)
  | 1 => .array (.array .int)
  | 2 => .array .int
  | 3 => .boolean
  | 4 => .int
  | 5 => .int
  | _ => .int
theorem zin4 : ∀ w ∈ u_ws "QuantisedLists$Quantiser" zT4 7, w ∈ gtbl := zin [105, 107, 109, 111, 113, 115, 117] (by decide +kernel)
theorem zok4 : ∀ k, k < 7 → parseFieldDescriptor (zT4 k).2.2.1 = some (zty4 k) := by decide +kernel
theorem znm4 : ∀ a, a < 7 → ∀ b, b < 7 → a ≠ b → (zT4 a).2.1 ≠ (zT4 b).2.1 := by decide +kernel
def zT5 : u_T := fun k => match k with
  | 0 => ("QuantisedLists$EntryTable", "rows", "[LQuantisedLists$Entry;", true)
  | _ => ("QuantisedLists$EntryTable", "count", "I", false)
def zty5 : Nat → FieldType := fun k => match k with
  | 0 => .array (.object "QuantisedLists$Entry")
  | _ => .int
theorem zin5 : ∀ w ∈ u_ws "QuantisedLists$EntryTable" zT5 2, w ∈ gtbl := zin [165, 167] (by decide +kernel)
theorem zok5 : ∀ k, k < 2 → parseFieldDescriptor (zT5 k).2.2.1 = some (zty5 k) := by decide +kernel
theorem znm5 : ∀ a, a < 2 → ∀ b, b < 2 → a ≠ b → (zT5 a).2.1 ≠ (zT5 b).2.1 := by decide +kernel
def zT6 : u_T := fun k => match k with
  | 0 => ("QuantisedLists$Finder", "given", "[I", true)
  | 1 => ("QuantisedLists$Finder", "goal", "[I", true)
  | 2 => ("QuantisedLists$Finder", "places", "[I", true)
  | 3 => ("QuantisedLists$Finder", "distances", "[I", true)
  | 4 => ("QuantisedLists$Finder", "ids", "[I", true)
  | 5 => ("QuantisedLists$Finder", "probes", "I", false)
  | 6 => ("QuantisedLists$Finder", "refine", "I", false)
  | 7 => ("QuantisedLists$Finder", "looked", "I", false)
  | _ => ("QuantisedLists$Finder", "results", "I", false)
def zty6 : Nat → FieldType := fun k => match k with
  | 0 => .array .int
  | 1 => .array .int
  | 2 => .array .int
  | 3 => .array .int
  | 4 => .array .int
  | 5 => .int
  | 6 => .int
  | 7 => .int
  | _ => .int
theorem zin6 : ∀ w ∈ u_ws "QuantisedLists$Finder" zT6 9, w ∈ gtbl := zin [193, 195, 197, 199, 201, 203, 205, 207, 209] (by decide +kernel)
theorem zok6 : ∀ k, k < 9 → parseFieldDescriptor (zT6 k).2.2.1 = some (zty6 k) := by decide +kernel
theorem znm6 : ∀ a, a < 9 → ∀ b, b < 9 → a ≠ b → (zT6 a).2.1 ≠ (zT6 b).2.1 := by decide +kernel
def zT7 : u_T := fun k => match k with
  | 0 => ("QuantisedLists$ByteFile", "bytes", "[I", true)
  | _ => ("QuantisedLists$ByteFile", "length", "I", false)
def zty7 : Nat → FieldType := fun k => match k with
  | 0 => .array .int
  | _ => .int
theorem zin7 : ∀ w ∈ u_ws "QuantisedLists$ByteFile" zT7 2, w ∈ gtbl := zin [222, 224] (by decide +kernel)
theorem zok7 : ∀ k, k < 2 → parseFieldDescriptor (zT7 k).2.2.1 = some (zty7 k) := by decide +kernel
theorem znm7 : ∀ a, a < 2 → ∀ b, b < 2 → a ≠ b → (zT7 a).2.1 ≠ (zT7 b).2.1 := by decide +kernel
def zT8 : u_T := fun k => match k with
  | 0 => ("QuantisedListsModel", "t", "[I", true)
  | 1 => ("QuantisedListsModel", "samples", "[I", true)
  | 2 => ("QuantisedListsModel", "count", "I", false)
  | 3 => ("QuantisedListsModel", "trained", "Z", false)
  | 4 => ("QuantisedListsModel", "kind", "I", false)
  | 5 => ("QuantisedListsModel", "lists", "I", false)
  | 6 => ("QuantisedListsModel", "codes", "I", false)
  | 7 => ("QuantisedListsModel", "centres", "[I", true)
  | 8 => ("QuantisedListsModel", "words", "[I", true)
  | 9 => ("QuantisedListsModel", "present", "[Z", true)
  | 10 => ("QuantisedListsModel", "points", "[I", true)
  | 11 => ("QuantisedListsModel", "kept", "I", false)
  | 12 => ("QuantisedListsModel", "probes", "I", false)
  | 13 => ("QuantisedListsModel", "refine", "I", false)
  | 14 => ("QuantisedListsModel", "hits", "[I", true)
  | 15 => ("QuantisedListsModel", "fars", "[I", true)
  | 16 => ("QuantisedListsModel", "found", "I", false)
  | 17 => ("QuantisedListsModel", "looked", "I", false)
  | 18 => ("QuantisedListsModel", "file", "[I", true)
  | 19 => ("QuantisedListsModel", "length", "I", false)
  | 20 => ("QuantisedListsModel", "given", "[I", true)
  | 21 => ("QuantisedListsModel", "turned", "[I", true)
  | 22 => ("QuantisedListsModel", "left", "[I", true)
  | 23 => ("QuantisedListsModel", "sought", "[I", true)
  | 24 => ("QuantisedListsModel", "item", "[I", true)
  | 25 => ("QuantisedListsModel", "rest", "[I", true)
  | 26 => ("QuantisedListsModel", "middle", "[I", true)
  | 27 => ("QuantisedListsModel", "member", "[I", true)
  | 28 => ("QuantisedListsModel", "share", "[I", true)
  | 29 => ("QuantisedListsModel", "ids", "[I", true)
  | 30 => ("QuantisedListsModel", "key", "[I", true)
  | 31 => ("QuantisedListsModel", "exact", "[I", true)
  | _ => ("QuantisedListsModel", "taken", "[Z", true)
def zty8 : Nat → FieldType := fun k => match k with
  | 0 => .array .int
  | 1 => .array .int
  | 2 => .int
  | 3 => .boolean
  | 4 => .int
  | 5 => .int
  | 6 => .int
  | 7 => .array .int
  | 8 => .array .int
  | 9 => .array .boolean
  | 10 => .array .int
  | 11 => .int
  | 12 => .int
  | 13 => .int
  | 14 => .array .int
  | 15 => .array .int
  | 16 => .int
  | 17 => .int
  | 18 => .array .int
  | 19 => .int
  | 20 => .array .int
  | 21 => .array .int
  | 22 => .array .int
  | 23 => .array .int
  | 24 => .array .int
  | 25 => .array .int
  | 26 => .array .int
  | 27 => .array .int
  | 28 => .array .int
  | 29 => .array .int
  | 30 => .array .int
  | 31 => .array .int
  | _ => .array .boolean
theorem zin8 : ∀ w ∈ u_ws "QuantisedListsModel" zT8 33, w ∈ gtbl := zin [696, 698, 700, 702, 704, 706, 708, 710, 712, 714, 716, 718, 720, 722, 724, 726, 728, 730, 732, 734, 736, 738, 740, 742, 744, 746, 748, 750, 752, 754, 756, 758, 760] (by decide +kernel)
theorem zok8 : ∀ k, k < 33 → parseFieldDescriptor (zT8 k).2.2.1 = some (zty8 k) := by decide +kernel
theorem znm8 : ∀ a, a < 33 → ∀ b, b < 33 → a ≠ b → (zT8 a).2.1 ≠ (zT8 b).2.1 := by decide +kernel
def zT9 : u_T := fun k => match k with
  | 0 => ("QuantisedLists$Entry", "given", "[I", true)
  | 1 => ("QuantisedLists$Entry", "turned", "[I", true)
  | 2 => ("QuantisedLists$Entry", "code", "[I", true)
  | 3 => ("QuantisedLists$Entry", "id", "I", false)
  | _ => ("QuantisedLists$Entry", "list", "I", false)
def zty9 : Nat → FieldType := fun k => match k with
  | 0 => .array .int
  | 1 => .array .int
  | 2 => .array .int
  | 3 => .int
  | _ => .int
theorem zin9 : ∀ w ∈ u_ws "QuantisedLists$Entry" zT9 5, w ∈ gtbl := zin [148, 150, 152, 154, 156] (by decide +kernel)
theorem zok9 : ∀ k, k < 5 → parseFieldDescriptor (zT9 k).2.2.1 = some (zty9 k) := by decide +kernel
theorem znm9 : ∀ a, a < 5 → ∀ b, b < 5 → a ≠ b → (zT9 a).2.1 ≠ (zT9 b).2.1 := by decide +kernel
def zcl : List vw_C := [("QuantisedLists", zT0, 7), ("QuantisedLists$Turn", zT1, 1), ("QuantisedLists$Samples", zT2, 2), ("QuantisedLists$Clustering", zT3, 9), ("QuantisedLists$Quantiser", zT4, 7), ("QuantisedLists$EntryTable", zT5, 2), ("QuantisedLists$Finder", zT6, 9), ("QuantisedLists$ByteFile", zT7, 2), ("QuantisedListsModel", zT8, 33), ("QuantisedLists$Entry", zT9, 5)]
theorem zcf {ci : Nat} {C : String} {T : u_T} {N : Nat} (h : zcl[ci]? = some (C, T, N)) : (∀ w ∈ u_ws C T N, w ∈ gtbl) ∧ (∃ t0 : Nat → FieldType, ∀ k, k < N → parseFieldDescriptor (T k).2.2.1 = some (t0 k)) ∧ (∀ a, a < N → ∀ b, b < N → a ≠ b → (T a).2.1 ≠ (T b).2.1) := by
  match ci, h with
  | 0, h => cases h; exact ⟨zin0, ⟨zty0, zok0⟩, znm0⟩
  | 1, h => cases h; exact ⟨zin1, ⟨zty1, zok1⟩, znm1⟩
  | 2, h => cases h; exact ⟨zin2, ⟨zty2, zok2⟩, znm2⟩
  | 3, h => cases h; exact ⟨zin3, ⟨zty3, zok3⟩, znm3⟩
  | 4, h => cases h; exact ⟨zin4, ⟨zty4, zok4⟩, znm4⟩
  | 5, h => cases h; exact ⟨zin5, ⟨zty5, zok5⟩, znm5⟩
  | 6, h => cases h; exact ⟨zin6, ⟨zty6, zok6⟩, znm6⟩
  | 7, h => cases h; exact ⟨zin7, ⟨zty7, zok7⟩, znm7⟩
  | 8, h => cases h; exact ⟨zin8, ⟨zty8, zok8⟩, znm8⟩
  | 9, h => cases h; exact ⟨zin9, ⟨zty9, zok9⟩, znm9⟩
def FL (own : String) (idx ci k : Nat) : Prop := ∃ (C : String) (T : u_T) (N : Nat), zcl[ci]? = some (C, T, N) ∧ k < N ∧ (T k).1 = C ∧ (Cond.fieldLink own idx C (T k).2.1 (T k).2.2.1 ∈ gtbl ∨ ∃ host, Cond.fieldLinkNest own idx C (T k).2.1 (T k).2.2.1 host ∈ ntbl)
def FW (ci k : Nat) (ty : FieldType) : Prop := ∀ (C : String) (T : u_T) (N : Nat), zcl[ci]? = some (C, T, N) → (T k).2.2.2 = false ∧ parseFieldDescriptor (T k).2.2.1 = some ty
def MF (M : Mt) : Prop := Cond.code M.1 M.2.1 M.2.2.1 M.2.2.2.1 ∈ gtbl ∧ Cond.initialized M.1.cls ∈ gtbl ∧ M.1.cls ≠ "java/lang/invoke/MethodHandle" ∧ M.1.cls ≠ "java/lang/invoke/VarHandle" ∧ plainFor M.1 = true
def MV (M : Mt) : Prop := Cond.instanceMethod M.1 ∈ gtbl ∧ Cond.selects M.1.cls M.1 M.1 ∈ gtbl
def MS (M : Mt) : Prop := Cond.static M.1 ∈ gtbl
abbrev NP (M : Mt) (n : Nat) : Prop := (parseMethodDescriptor M.1.desc).map (fun d => d.parameters.length) = some n
def LK (own : String) (idx : Nat) (y : MethodName) : Prop := Cond.methodLink own idx y ∈ gtbl ∨ ∃ host, Cond.methodLinkNest own idx y host ∈ ntbl
def M_q_turn : Mt := (⟨"QuantisedLists", "turn", "(IIII)Z"⟩, prog_1_method_2_code, 5, some .boolean, 3, 65)
def M_t_allows : Mt := (⟨"QuantisedLists$Turn", "allows", "(IIII)Z"⟩, prog_9_method_2_code, 4, some .boolean, 2, 42)
def M_t_isStep : Mt := (⟨"QuantisedLists$Turn", "isStep", "(I)Z"⟩, prog_9_method_3_code, 1, some .boolean, 1, 22)
def M_q_isWithin : Mt := (⟨"QuantisedLists", "isWithin", "(III)Z"⟩, prog_1_method_35_code, 3, some .boolean, 0, 0)
def M_t_axisBit : Mt := (⟨"QuantisedLists$Turn", "axisBit", "(I)I"⟩, prog_9_method_4_code, 1, some .int, 1, 20)
def M_j_abs : Mt := (⟨"java/lang/Math", "abs", "(I)I"⟩, prog_12_method_59_code, 1, some .int, 0, 0)
def M_t_become : Mt := (⟨"QuantisedLists$Turn", "become", "(IIII)V"⟩, prog_9_method_5_code, 5, none, 1, 24)
def M_q_setPoint : Mt := (⟨"QuantisedLists", "setPoint", "([IIIII)V"⟩, prog_1_method_37_code, 5, none, 0, 0)
def M_q_sample : Mt := (⟨"QuantisedLists", "sample", "(IIII)Z"⟩, prog_1_method_3_code, 5, some .boolean, 2, 45)
def M_q_isBad : Mt := (⟨"QuantisedLists", "isBad", "(IIII)Z"⟩, prog_1_method_36_code, 4, some .boolean, 1, 22)
def M_q_train : Mt := (⟨"QuantisedLists", "train", "(IIII)I"⟩, prog_1_method_4_code, 5, some .int, 6, 150)
def M_z_become : Mt := (⟨"QuantisedLists$Quantiser", "become", "(III)V"⟩, prog_7_method_2_code, 4, none, 0, 0)
def M_q_learnCentres : Mt := (⟨"QuantisedLists", "learnCentres", "(I)V"⟩, prog_1_method_22_code, 3, none, 5, 127)
def M_t_apply : Mt := (⟨"QuantisedLists$Turn", "apply", "([I[I)V"⟩, prog_9_method_6_code, 5, none, 1, 20)
def M_c_cluster : Mt := (⟨"QuantisedLists$Clustering", "cluster", "(IIII)V"⟩, prog_3_method_2_code, 6, none, 4, 102)
def M_c_chooseCentres : Mt := (⟨"QuantisedLists$Clustering", "chooseCentres", "()V"⟩, prog_3_method_6_code, 2, none, 3, 81)
def M_c_beginCentre : Mt := (⟨"QuantisedLists$Clustering", "beginCentre", "(II)V"⟩, prog_3_method_7_code, 4, none, 0, 0)
def M_c_farthestItem : Mt := (⟨"QuantisedLists$Clustering", "farthestItem", "(I)I"⟩, prog_3_method_8_code, 7, some .int, 2, 55)
def M_q_nearestRow : Mt := (⟨"QuantisedLists", "nearestRow", "([[III[III)I"⟩, prog_1_method_43_code, 10, some .int, 1, 26)
def M_q_distance : Mt := (⟨"QuantisedLists", "distance", "([I[III)I"⟩, prog_1_method_42_code, 7, some .int, 0, 0)
def M_c_countMembers : Mt := (⟨"QuantisedLists$Clustering", "countMembers", "()V"⟩, prog_3_method_9_code, 4, none, 2, 55)
def M_c_moveToMeans : Mt := (⟨"QuantisedLists$Clustering", "moveToMeans", "()V"⟩, prog_3_method_10_code, 3, none, 1, 22)
def M_j_floorDiv : Mt := (⟨"java/lang/Math", "floorDiv", "(II)I"⟩, prog_12_method_47_code, 3, some .int, 0, 0)
def M_c_fillEmptyCentres : Mt := (⟨"QuantisedLists$Clustering", "fillEmptyCentres", "()V"⟩, prog_3_method_11_code, 2, none, 1, 23)
def M_c_greatestShare : Mt := (⟨"QuantisedLists$Clustering", "greatestShare", "()I"⟩, prog_3_method_12_code, 3, some .int, 0, 0)
def M_c_splitInto : Mt := (⟨"QuantisedLists$Clustering", "splitInto", "(II)V"⟩, prog_3_method_13_code, 4, none, 0, 0)
def M_c_giveCentres : Mt := (⟨"QuantisedLists$Clustering", "giveCentres", "([[II)V"⟩, prog_3_method_3_code, 5, none, 0, 0)
def M_q_keepWhatIsLeft : Mt := (⟨"QuantisedLists", "keepWhatIsLeft", "()V"⟩, prog_1_method_23_code, 3, none, 3, 76)
def M_z_nearestList : Mt := (⟨"QuantisedLists$Quantiser", "nearestList", "([I)I"⟩, prog_7_method_5_code, 2, some .int, 2, 55)
def M_q_subtract : Mt := (⟨"QuantisedLists", "subtract", "([I[I[I)V"⟩, prog_1_method_41_code, 4, none, 0, 0)
def M_q_learnWords : Mt := (⟨"QuantisedLists", "learnWords", "(I)V"⟩, prog_1_method_24_code, 4, none, 5, 127)
def M_q_partWidthOf : Mt := (⟨"QuantisedLists", "partWidthOf", "(I)I"⟩, prog_1_method_39_code, 1, some .int, 0, 0)
def M_q_partsOf : Mt := (⟨"QuantisedLists", "partsOf", "(I)I"⟩, prog_1_method_38_code, 1, some .int, 0, 0)
def M_q_wordRow : Mt := (⟨"QuantisedLists", "wordRow", "(II)I"⟩, prog_1_method_40_code, 2, some .int, 0, 0)
def M_c_least : Mt := (⟨"QuantisedLists$Clustering", "least", "(I)I"⟩, prog_3_method_4_code, 4, some .int, 1, 21)
def M_j_min : Mt := (⟨"java/lang/Math", "min", "(II)I"⟩, prog_12_method_69_code, 2, some .int, 0, 0)
def M_c_greatest : Mt := (⟨"QuantisedLists$Clustering", "greatest", "(I)I"⟩, prog_3_method_5_code, 4, some .int, 1, 21)
def M_j_max : Mt := (⟨"java/lang/Math", "max", "(II)I"⟩, prog_12_method_65_code, 2, some .int, 0, 0)
def M_z_spreadWords : Mt := (⟨"QuantisedLists$Quantiser", "spreadWords", "(III)V"⟩, prog_7_method_8_code, 5, none, 1, 21)
def M_q_trainingError : Mt := (⟨"QuantisedLists", "trainingError", "()I"⟩, prog_1_method_25_code, 5, some .int, 3, 78)
def M_z_nearestWord : Mt := (⟨"QuantisedLists$Quantiser", "nearestWord", "(I[I)I"⟩, prog_7_method_6_code, 4, some .int, 2, 55)
def M_z_wordDistance : Mt := (⟨"QuantisedLists$Quantiser", "wordDistance", "(II[I)I"⟩, prog_7_method_7_code, 5, some .int, 1, 26)
def M_q_centre : Mt := (⟨"QuantisedLists", "centre", "(II)I"⟩, prog_1_method_5_code, 3, some .int, 2, 43)
def M_z_hasList : Mt := (⟨"QuantisedLists$Quantiser", "hasList", "(I)Z"⟩, prog_7_method_3_code, 2, some .boolean, 1, 22)
def M_q_word : Mt := (⟨"QuantisedLists", "word", "(III)I"⟩, prog_1_method_6_code, 4, some .int, 2, 44)
def M_z_hasWord : Mt := (⟨"QuantisedLists$Quantiser", "hasWord", "(II)Z"⟩, prog_7_method_4_code, 3, some .boolean, 1, 22)
def M_q_add : Mt := (⟨"QuantisedLists", "add", "(IIIII)I"⟩, prog_1_method_7_code, 6, some .int, 5, 126)
def M_b_placeOf : Mt := (⟨"QuantisedLists$EntryTable", "placeOf", "(I)I"⟩, prog_5_method_2_code, 3, some .int, 0, 0)
def M_q_putEntry : Mt := (⟨"QuantisedLists", "putEntry", "(IIIII)I"⟩, prog_1_method_26_code, 7, some .int, 4, 100)
def M_b_makeRoom : Mt := (⟨"QuantisedLists$EntryTable", "makeRoom", "(I)I"⟩, prog_5_method_4_code, 4, some .int, 0, 0)
def M_z_encode : Mt := (⟨"QuantisedLists$Quantiser", "encode", "(LQuantisedLists$Entry;)V"⟩, prog_7_method_9_code, 3, none, 3, 78)
def M_q_remove : Mt := (⟨"QuantisedLists", "remove", "(I)Z"⟩, prog_1_method_8_code, 3, some .boolean, 1, 23)
def M_b_drop : Mt := (⟨"QuantisedLists$EntryTable", "drop", "(I)V"⟩, prog_5_method_5_code, 4, none, 0, 0)
def M_q_listOf : Mt := (⟨"QuantisedLists", "listOf", "(I)I"⟩, prog_1_method_9_code, 3, some .int, 1, 22)
def M_q_codeOf : Mt := (⟨"QuantisedLists", "codeOf", "(I)I"⟩, prog_1_method_10_code, 3, some .int, 2, 44)
def M_z_codeAsNumber : Mt := (⟨"QuantisedLists$Quantiser", "codeAsNumber", "(LQuantisedLists$Entry;)I"⟩, prog_7_method_10_code, 5, some .int, 1, 20)
def M_q_entries : Mt := (⟨"QuantisedLists", "entries", "(I)I"⟩, prog_1_method_11_code, 2, some .int, 2, 43)
def M_b_countInList : Mt := (⟨"QuantisedLists$EntryTable", "countInList", "(I)I"⟩, prog_5_method_3_code, 4, some .int, 0, 0)
def M_q_effort : Mt := (⟨"QuantisedLists", "effort", "(II)Z"⟩, prog_1_method_12_code, 3, some .boolean, 1, 22)
def M_q_search : Mt := (⟨"QuantisedLists", "search", "(IIIII)I"⟩, prog_1_method_13_code, 6, some .int, 5, 122)
def M_f_find : Mt := (⟨"QuantisedLists$Finder", "find", "(LQuantisedLists$Quantiser;LQuantisedLists$EntryTable;I)V"⟩, prog_6_method_3_code, 5, none, 4, 98)
def M_f_lookThrough : Mt := (⟨"QuantisedLists$Finder", "lookThrough", "(LQuantisedLists$Quantiser;LQuantisedLists$EntryTable;)V"⟩, prog_6_method_4_code, 5, none, 3, 74)
def M_z_listsBefore : Mt := (⟨"QuantisedLists$Quantiser", "listsBefore", "(I[I)I"⟩, prog_7_method_12_code, 7, some .int, 1, 26)
def M_z_codeDistance : Mt := (⟨"QuantisedLists$Quantiser", "codeDistance", "([ILQuantisedLists$Entry;)I"⟩, prog_7_method_11_code, 5, some .int, 2, 50)
def M_f_sort : Mt := (⟨"QuantisedLists$Finder", "sort", "(I)V"⟩, prog_6_method_6_code, 6, none, 1, 23)
def M_f_isBefore : Mt := (⟨"QuantisedLists$Finder", "isBefore", "(III)Z"⟩, prog_6_method_7_code, 4, some .boolean, 0, 0)
def M_f_measure : Mt := (⟨"QuantisedLists$Finder", "measure", "(LQuantisedLists$EntryTable;I)V"⟩, prog_6_method_5_code, 4, none, 1, 26)
def M_f_keepIds : Mt := (⟨"QuantisedLists$Finder", "keepIds", "(LQuantisedLists$EntryTable;)V"⟩, prog_6_method_8_code, 3, none, 0, 0)
def M_q_hit : Mt := (⟨"QuantisedLists", "hit", "(I)I"⟩, prog_1_method_14_code, 2, some .int, 2, 43)
def M_f_hasResult : Mt := (⟨"QuantisedLists$Finder", "hasResult", "(I)Z"⟩, prog_6_method_2_code, 2, some .boolean, 1, 22)
def M_q_far : Mt := (⟨"QuantisedLists", "far", "(I)I"⟩, prog_1_method_15_code, 2, some .int, 2, 43)
def M_q_scanned : Mt := (⟨"QuantisedLists", "scanned", "()I"⟩, prog_1_method_16_code, 1, some .int, 0, 0)
def M_q_save : Mt := (⟨"QuantisedLists", "save", "()I"⟩, prog_1_method_17_code, 1, some .int, 3, 65)
def M_q_writeHead : Mt := (⟨"QuantisedLists", "writeHead", "()V"⟩, prog_1_method_27_code, 2, none, 1, 21)
def M_y_put : Mt := (⟨"QuantisedLists$ByteFile", "put", "(I)V"⟩, prog_2_method_2_code, 2, none, 0, 0)
def M_q_writeCentres : Mt := (⟨"QuantisedLists", "writeCentres", "()V"⟩, prog_1_method_28_code, 3, none, 2, 42)
def M_y_putPair : Mt := (⟨"QuantisedLists$ByteFile", "putPair", "(I)V"⟩, prog_2_method_3_code, 2, none, 1, 21)
def M_q_writeWords : Mt := (⟨"QuantisedLists", "writeWords", "()V"⟩, prog_1_method_29_code, 4, none, 2, 42)
def M_q_writeEntries : Mt := (⟨"QuantisedLists", "writeEntries", "()V"⟩, prog_1_method_30_code, 4, none, 2, 42)
def M_y_checkOf : Mt := (⟨"QuantisedLists$ByteFile", "checkOf", "(I)I"⟩, prog_2_method_4_code, 4, some .int, 0, 0)
def M_q_alter : Mt := (⟨"QuantisedLists", "alter", "(II)Z"⟩, prog_1_method_18_code, 3, some .boolean, 1, 22)
def M_q_cut : Mt := (⟨"QuantisedLists", "cut", "(I)Z"⟩, prog_1_method_19_code, 2, some .boolean, 1, 22)
def M_q_byteAt : Mt := (⟨"QuantisedLists", "byteAt", "(I)I"⟩, prog_1_method_20_code, 2, some .int, 1, 22)
def M_q_load : Mt := (⟨"QuantisedLists", "load", "()I"⟩, prog_1_method_21_code, 2, some .int, 6, 147)
def M_y_fault : Mt := (⟨"QuantisedLists$ByteFile", "fault", "()I"⟩, prog_2_method_9_code, 1, some .int, 5, 109)
def M_y_hasSizes : Mt := (⟨"QuantisedLists$ByteFile", "hasSizes", "()Z"⟩, prog_2_method_10_code, 1, some .boolean, 1, 22)
def M_y_step : Mt := (⟨"QuantisedLists$ByteFile", "step", "(I)I"⟩, prog_2_method_5_code, 2, some .int, 0, 0)
def M_y_entryStart : Mt := (⟨"QuantisedLists$ByteFile", "entryStart", "(I)I"⟩, prog_2_method_12_code, 2, some .int, 1, 21)
def M_y_wideCount : Mt := (⟨"QuantisedLists$ByteFile", "wideCount", "()I"⟩, prog_2_method_11_code, 2, some .int, 0, 0)
def M_y_hasWides : Mt := (⟨"QuantisedLists$ByteFile", "hasWides", "()Z"⟩, prog_2_method_14_code, 2, some .boolean, 2, 42)
def M_y_wide : Mt := (⟨"QuantisedLists$ByteFile", "wide", "(I)I"⟩, prog_2_method_6_code, 2, some .int, 1, 21)
def M_y_pairAt : Mt := (⟨"QuantisedLists$ByteFile", "pairAt", "(I)I"⟩, prog_2_method_13_code, 2, some .int, 0, 0)
def M_y_hasEntries : Mt := (⟨"QuantisedLists$ByteFile", "hasEntries", "()Z"⟩, prog_2_method_15_code, 4, some .boolean, 4, 86)
def M_y_entryId : Mt := (⟨"QuantisedLists$ByteFile", "entryId", "(I)I"⟩, prog_2_method_7_code, 2, some .int, 2, 42)
def M_y_hasPoint : Mt := (⟨"QuantisedLists$ByteFile", "hasPoint", "(I)Z"⟩, prog_2_method_16_code, 3, some .boolean, 3, 64)
def M_y_entryCoordinate : Mt := (⟨"QuantisedLists$ByteFile", "entryCoordinate", "(II)I"⟩, prog_2_method_8_code, 3, some .int, 2, 42)
def M_q_readHead : Mt := (⟨"QuantisedLists", "readHead", "()V"⟩, prog_1_method_31_code, 1, none, 2, 48)
def M_q_readCentres : Mt := (⟨"QuantisedLists", "readCentres", "()V"⟩, prog_1_method_32_code, 3, none, 2, 42)
def M_q_readWords : Mt := (⟨"QuantisedLists", "readWords", "()V"⟩, prog_1_method_33_code, 5, none, 2, 42)
def M_q_readEntries : Mt := (⟨"QuantisedLists", "readEntries", "()V"⟩, prog_1_method_34_code, 2, none, 5, 126)
def M_m_turn : Mt := (⟨"QuantisedListsModel", "turn", "(IIII)Z"⟩, prog_11_method_8_code, 5, some .boolean, 2, 43)
def M_m_isTurn : Mt := (⟨"QuantisedListsModel", "isTurn", "(IIII)Z"⟩, prog_11_method_3_code, 4, some .boolean, 1, 20)
def M_m_bit : Mt := (⟨"QuantisedListsModel", "bit", "(I)I"⟩, prog_11_method_2_code, 1, some .int, 0, 0)
def M_m_sample : Mt := (⟨"QuantisedListsModel", "sample", "(IIII)Z"⟩, prog_11_method_9_code, 6, some .boolean, 2, 46)
def M_m_give : Mt := (⟨"QuantisedListsModel", "give", "(IIII)Z"⟩, prog_11_method_5_code, 5, some .boolean, 1, 22)
def M_m_within : Mt := (⟨"QuantisedListsModel", "within", "(III)Z"⟩, prog_11_method_4_code, 3, some .boolean, 0, 0)
def M_m_train : Mt := (⟨"QuantisedListsModel", "train", "(IIII)I"⟩, prog_11_method_19_code, 8, some .int, 4, 103)
def M_m_turnIt : Mt := (⟨"QuantisedListsModel", "turnIt", "()V"⟩, prog_11_method_6_code, 2, none, 0, 0)
def M_m_cluster : Mt := (⟨"QuantisedListsModel", "cluster", "(III)V"⟩, prog_11_method_13_code, 10, none, 2, 51)
def M_m_nearest : Mt := (⟨"QuantisedListsModel", "nearest", "(III)I"⟩, prog_11_method_12_code, 6, some .int, 1, 26)
def M_m_gap : Mt := (⟨"QuantisedListsModel", "gap", "(III)I"⟩, prog_11_method_11_code, 7, some .int, 0, 0)
def M_m_mean : Mt := (⟨"QuantisedListsModel", "mean", "(II)V"⟩, prog_11_method_14_code, 7, none, 1, 22)
def M_m_floor : Mt := (⟨"QuantisedListsModel", "floor", "(II)I"⟩, prog_11_method_10_code, 3, some .int, 0, 0)
def M_m_fill : Mt := (⟨"QuantisedListsModel", "fill", "(II)V"⟩, prog_11_method_16_code, 6, none, 1, 22)
def M_m_hasMember : Mt := (⟨"QuantisedListsModel", "hasMember", "(I)Z"⟩, prog_11_method_15_code, 3, some .boolean, 0, 0)
def M_m_parts : Mt := (⟨"QuantisedListsModel", "parts", "()I"⟩, prog_11_method_17_code, 1, some .int, 0, 0)
def M_m_learn : Mt := (⟨"QuantisedListsModel", "learn", "(II)V"⟩, prog_11_method_20_code, 4, none, 3, 80)
def M_m_spread : Mt := (⟨"QuantisedListsModel", "spread", "(I)V"⟩, prog_11_method_21_code, 6, none, 0, 0)
def M_m_loss : Mt := (⟨"QuantisedListsModel", "loss", "()I"⟩, prog_11_method_22_code, 5, some .int, 3, 69)
def M_m_nearestWord : Mt := (⟨"QuantisedListsModel", "nearestWord", "(I)I"⟩, prog_11_method_24_code, 5, some .int, 2, 45)
def M_m_wordGap : Mt := (⟨"QuantisedListsModel", "wordGap", "(II)I"⟩, prog_11_method_23_code, 6, some .int, 1, 20)
def M_m_size : Mt := (⟨"QuantisedListsModel", "size", "()I"⟩, prog_11_method_18_code, 1, some .int, 0, 0)
def M_m_centre : Mt := (⟨"QuantisedListsModel", "centre", "(II)I"⟩, prog_11_method_25_code, 3, some .int, 1, 22)
def M_m_word : Mt := (⟨"QuantisedListsModel", "word", "(III)I"⟩, prog_11_method_26_code, 5, some .int, 1, 22)
def M_m_add : Mt := (⟨"QuantisedListsModel", "add", "(IIIII)I"⟩, prog_11_method_29_code, 9, some .int, 2, 47)
def M_m_listNow : Mt := (⟨"QuantisedListsModel", "listNow", "()I"⟩, prog_11_method_28_code, 4, some .int, 1, 24)
def M_m_away : Mt := (⟨"QuantisedListsModel", "away", "(I)I"⟩, prog_11_method_27_code, 5, some .int, 0, 0)
def M_m_remove : Mt := (⟨"QuantisedListsModel", "remove", "(I)Z"⟩, prog_11_method_31_code, 2, some .boolean, 2, 43)
def M_m_there : Mt := (⟨"QuantisedListsModel", "there", "(I)Z"⟩, prog_11_method_30_code, 2, some .boolean, 1, 22)
def M_m_listOf : Mt := (⟨"QuantisedListsModel", "listOf", "(I)I"⟩, prog_11_method_32_code, 2, some .int, 2, 47)
def M_m_turnEntry : Mt := (⟨"QuantisedListsModel", "turnEntry", "(I)V"⟩, prog_11_method_7_code, 3, none, 1, 21)
def M_m_codeOf : Mt := (⟨"QuantisedListsModel", "codeOf", "(I)I"⟩, prog_11_method_34_code, 6, some .int, 3, 69)
def M_m_leave : Mt := (⟨"QuantisedListsModel", "leave", "(I)V"⟩, prog_11_method_33_code, 3, none, 0, 0)
def M_m_entries : Mt := (⟨"QuantisedListsModel", "entries", "(I)I"⟩, prog_11_method_35_code, 4, some .int, 2, 47)
def M_m_effort : Mt := (⟨"QuantisedListsModel", "effort", "(II)Z"⟩, prog_11_method_36_code, 3, some .boolean, 1, 22)
def M_m_search : Mt := (⟨"QuantisedListsModel", "search", "(IIIII)I"⟩, prog_11_method_38_code, 10, some .int, 4, 96)
def M_m_measure : Mt := (⟨"QuantisedListsModel", "measure", "(I)V"⟩, prog_11_method_39_code, 8, none, 3, 69)
def M_m_probed : Mt := (⟨"QuantisedListsModel", "probed", "(I)Z"⟩, prog_11_method_37_code, 6, some .boolean, 1, 24)
def M_m_rank : Mt := (⟨"QuantisedListsModel", "rank", "(I)I"⟩, prog_11_method_40_code, 4, some .int, 0, 0)
def M_m_exactRank : Mt := (⟨"QuantisedListsModel", "exactRank", "(I)I"⟩, prog_11_method_41_code, 4, some .int, 0, 0)
def M_m_hit : Mt := (⟨"QuantisedListsModel", "hit", "(I)I"⟩, prog_11_method_42_code, 2, some .int, 1, 22)
def M_m_far : Mt := (⟨"QuantisedListsModel", "far", "(I)I"⟩, prog_11_method_43_code, 2, some .int, 1, 22)
def M_m_scanned : Mt := (⟨"QuantisedListsModel", "scanned", "()I"⟩, prog_11_method_44_code, 1, some .int, 0, 0)
def M_m_save : Mt := (⟨"QuantisedListsModel", "save", "()I"⟩, prog_11_method_48_code, 4, some .int, 2, 42)
def M_m_put : Mt := (⟨"QuantisedListsModel", "put", "(I)V"⟩, prog_11_method_45_code, 2, none, 0, 0)
def M_m_putTwo : Mt := (⟨"QuantisedListsModel", "putTwo", "(I)V"⟩, prog_11_method_46_code, 2, none, 1, 21)
def M_m_sum : Mt := (⟨"QuantisedListsModel", "sum", "(I)I"⟩, prog_11_method_47_code, 4, some .int, 0, 0)
def M_m_alter : Mt := (⟨"QuantisedListsModel", "alter", "(II)Z"⟩, prog_11_method_49_code, 3, some .boolean, 1, 22)
def M_m_cut : Mt := (⟨"QuantisedListsModel", "cut", "(I)Z"⟩, prog_11_method_50_code, 2, some .boolean, 1, 22)
def M_m_byteAt : Mt := (⟨"QuantisedListsModel", "byteAt", "(I)I"⟩, prog_11_method_51_code, 2, some .int, 1, 22)
def M_m_load : Mt := (⟨"QuantisedListsModel", "load", "()I"⟩, prog_11_method_55_code, 7, some .int, 3, 69)
def M_m_fault : Mt := (⟨"QuantisedListsModel", "fault", "()I"⟩, prog_11_method_54_code, 7, some .int, 2, 43)
def M_m_head : Mt := (⟨"QuantisedListsModel", "head", "()I"⟩, prog_11_method_53_code, 2, some .int, 0, 0)
def M_m_two : Mt := (⟨"QuantisedListsModel", "two", "(I)I"⟩, prog_11_method_52_code, 2, some .int, 0, 0)
end
section
/-! The flat picture: every object and array of the class and of the reference has a number (its code), 0 to 203; kd says what it is, ln how long, fref which of its fields are references that never change, gbase where the rows of a grid begin. A state S is: an int for each (code, place), and the order of the entry rows. -/
abbrev St : Type := (Nat → Nat → Int32) × (Nat → Nat)
def kd (c : Nat) : Nat := if c < 9 then 4 + c else if c = 10 ∨ c = 11 ∨ c = 12 ∨ c = 13 ∨ c = 16 ∨ c = 17 then 2 else if c = 19 then 3 else if c = 30 ∨ c = 47 then 1 else if 124 ≤ c ∧ c < 144 then 13 else 0
def lnT : List Nat := [0, 0, 0, 0, 0, 0, 0, 0, 0, 4, 24, 24, 4, 4, 4, 4, 4, 16, 4, 20, 4, 4, 20, 20, 20, 250, 4, 96, 16, 32, 1000, 4000, 8, 8, 250, 4, 4, 4, 4, 96, 96, 16, 24, 4, 20, 20, 20, 20]
def ln (c : Nat) : Nat := if c < 48 then lnT.getD c 0 else if 108 ≤ c ∧ c < 124 then 2 else 4
def gbase (c : Nat) : Nat := if c = 10 then 48 else if c = 11 then 72 else if c = 12 then 96 else if c = 13 then 100 else if c = 16 then 104 else 108
def frT : List (List (Option Nat)) := [[some 1, some 2, some 3, some 4, some 5, some 6, some 7], [some 9], [some 10, none], [some 11, some 12, some 13, some 14, some 15, none, none, none, none], [some 16, some 17, some 18, none, none, none, none], [some 19, none], [some 20, some 21, some 22, some 23, some 24, none, none, none, none], [some 25, none], [some 26, some 27, none, none, none, none, none, some 28, some 29, some 30, some 31, none, none, none, some 32, some 33, none, none, some 34, none, some 35, some 36, some 37, some 38, some 39, some 40, some 41, some 42, some 43, some 44, some 45, some 46, some 47]]
def fref (c k : Nat) : Option Nat := if c < 9 then (frT.getD c []).getD k none else if k < 3 then some (c + 20 + 20 * k) else none
def nfT : List Nat := [7, 1, 2, 9, 7, 2, 9, 2, 33, 5]
abbrev Lay : Type := va_G × (Nat → ClassId) × (Nat → Nat)
def fvl (ad : Nat → Nat) (S : St) (c k : Nat) : Value := match fref c k with
  | some d => .ref (ad d)
  | none => .int (S.1 c k)
def cel (Y : Lay) (S : St) (c : Nat) : va_E :=
  if kd c = 0 then .inl (Y.2.1 0, ln c, .inl (S.1 c))
  else if kd c = 1 then .inl (Y.2.1 1, ln c, .inl (S.1 c))
  else if kd c = 2 then .inl (Y.2.1 2, ln c, .inr (.inr (.inr (.inr (fun i => some (Y.2.2 (gbase c + i)))))))
  else if kd c = 3 then .inl (Y.2.1 3, ln c, .inr (.inr (.inr (.inr (fun i => some (Y.2.2 (S.2 i)))))))
  else .inr (kd c - 4, (List.range (nfT.getD (kd c - 4) 0)).map (fvl Y.2.2 S c))
def wsf (Y : Lay) (S : St) : va_W := (List.range 204).map (fun c => (Y.2.2 c, cel Y S c))
def ztys (Y : Lay) : List (ClassId × FieldType) := [(Y.2.1 0, .int), (Y.2.1 1, .boolean), (Y.2.1 2, .array .int), (Y.2.1 3, .object "QuantisedLists$Entry")]
def okY (Y : Lay) : Prop := ∀ c d : Nat, c < 204 → d < 204 → Y.2.2 c = Y.2.2 d → c = d
def AA (ad : Nat → Nat) : Nat → Prop := fun q => ∃ c, c < 204 ∧ ad c = q
def tr (ad : Nat → Nat) : Value → Value
  | .ref c => .ref (ad c)
  | v => v
def up2 (f : Nat → Nat → Int32) (c i : Nat) (v : Int32) : Nat → Nat → Int32 := fun c' i' => if c' = c ∧ i' = i then v else f c' i'
theorem wsf_at {Y : Lay} {S : St} {c : Nat} (h : c < 204) : (wsf Y S)[c]? = some (Y.2.2 c, cel Y S c) := by
  unfold wsf
  rw [List.getElem?_map, List.getElem?_range h]
  rfl
theorem wsf_some {Y : Lay} {S : St} {k : Nat} {q : Nat × va_E} (h : (wsf Y S)[k]? = some q) : k < 204 ∧ q = (Y.2.2 k, cel Y S k) := by
  by_cases hk : k < 204
  · rw [wsf_at hk] at h
    exact ⟨hk, (Option.some.inj h).symm⟩
  · unfold wsf at h
    rw [List.getElem?_map, List.getElem?_eq_none (by rw [List.length_range]; omega)] at h
    cases h
theorem wsf_D {Y : Lay} (hY : okY Y) (S : St) : va_D (AA Y.2.2) (wsf Y S) := by
  refine ⟨fun i j p q hi hj hpq => ?_, fun k q hk => ?_⟩
  · obtain ⟨h1, rfl⟩ := wsf_some hi
    obtain ⟨h2, rfl⟩ := wsf_some hj
    exact hY _ _ h1 h2 hpq
  · obtain ⟨h1, rfl⟩ := wsf_some hk
    exact ⟨k, h1, rfl⟩
/-- a write at one code -/
theorem wsf_set {Y : Lay} {S S' : St} {c : Nat} (h : ∀ d, d ≠ c → cel Y S' d = cel Y S d) : (wsf Y S).set c (Y.2.2 c, cel Y S' c) = wsf Y S' := by
  apply List.ext_getElem?
  intro k
  by_cases hk : k = c
  · subst hk
    by_cases hl : k < 204
    · rw [List.getElem?_set_self (by unfold wsf; rw [List.length_map, List.length_range]; exact hl), wsf_at hl]
    · rw [List.getElem?_eq_none (by unfold wsf; rw [List.length_set, List.length_map, List.length_range]; omega), List.getElem?_eq_none (by unfold wsf; rw [List.length_map, List.length_range]; omega)]
  · rw [List.getElem?_set_ne (Ne.symm hk)]
    by_cases hl : k < 204
    · rw [wsf_at hl, wsf_at hl, h k hk]
    · rw [List.getElem?_eq_none (by unfold wsf; rw [List.length_map, List.length_range]; omega), List.getElem?_eq_none (by unfold wsf; rw [List.length_map, List.length_range]; omega)]
theorem up2_same {f : Nat → Nat → Int32} {c i : Nat} {v : Int32} : up2 f c i v c i = v := by simp [up2]
theorem up2_ne {f : Nat → Nat → Int32} {c i c' i' : Nat} {v : Int32} (h : ¬ (c' = c ∧ i' = i)) : up2 f c i v c' i' = f c' i' := by simp [up2, h]
theorem up2_row {f : Nat → Nat → Int32} {c i d : Nat} {v : Int32} (h : d ≠ c) : up2 f c i v d = f d := by funext j; simp [up2, h]
theorem up2_upd {f : Nat → Nat → Int32} {c i : Nat} {v : Int32} : up2 f c i v c = upd (f c) i v := by
  funext j
  by_cases h : j = i
  · subst h; rw [pk_us]; exact up2_same
  · rw [pk_un h]; exact up2_ne (fun q => h q.2)
theorem cel_up2 {Y : Lay} {S : St} {c i d : Nat} {v : Int32} (h : d ≠ c) : cel Y (up2 S.1 c i v, S.2) d = cel Y S d := by
  have e : fvl Y.2.2 (up2 S.1 c i v, S.2) d = fvl Y.2.2 S d := by
    funext k
    unfold fvl
    cases fref d k with
    | some _ => rfl
    | none => show Value.int (up2 S.1 c i v d k) = _; rw [up2_row h]
  unfold cel
  rw [e]
  show (if kd d = 0 then _ else _) = _
  rw [show (up2 S.1 c i v, S.2).1 d = S.1 d from up2_row h]
/-- the locals: an unset one is .null here -/
def LR (ad : Nat → Nat) (L : List Value) (nL : Nat) (ls : Array Slot) : Prop := L.length = nL ∧ ls.size = nL ∧ lv_wf ls ∧ (∀ (i : Nat) (y : Int32), L[i]? = some (.int y) → ls[i]? = some (.val (.int y))) ∧ ∀ (i a : Nat), L[i]? = some (.ref a) → ls[i]? = some (.val (.ref (ad a)))
def lvo (ad : Nat → Nat) (L : List Value) : List (Nat × Value) := (List.range L.length).filterMap (fun i : Nat => match (L[i]? : Option Value) with
  | some (Value.int y) => some (i, Value.int y)
  | some (Value.ref a) => some (i, Value.ref (ad a))
  | _ => none)
theorem lvo_int {ad : Nat → Nat} {L : List Value} {i : Nat} {y : Int32} (h : L[i]? = some (.int y)) : (i, Value.int y) ∈ lvo ad L := by
  refine List.mem_filterMap.mpr ⟨i, List.mem_range.mpr (List.getElem?_eq_some_iff.mp h).1, ?_⟩
  rw [h]
theorem lvo_ref {ad : Nat → Nat} {L : List Value} {i a : Nat} (h : L[i]? = some (.ref a)) : (i, Value.ref (ad a)) ∈ lvo ad L := by
  refine List.mem_filterMap.mpr ⟨i, List.mem_range.mpr (List.getElem?_eq_some_iff.mp h).1, ?_⟩
  rw [h]
theorem LR.has {ad : Nat → Nat} {L : List Value} {nL : Nat} {ls : Array Slot} (h : LR ad L nL ls) : lv_has ls nL (lvo ad L) := by
  obtain ⟨h0, h1, h2, h3, h4⟩ := h
  refine ⟨h1, h2, fun q hq => ?_⟩
  obtain ⟨i, -, hi⟩ := List.mem_filterMap.mp hq
  cases hL : L[i]? with
  | none => rw [hL] at hi; cases hi
  | some v =>
    rw [hL] at hi
    cases v with
    | int y => cases hi; exact h3 i y hL
    | ref a => cases hi; exact h4 i a hL
    | long _ => cases hi
    | float _ => cases hi
    | double _ => cases hi
    | null => cases hi
    | retAddr _ => cases hi
theorem LR.of {ad : Nat → Nat} {L : List Value} {nL : Nat} {ls : Array Slot} {i : Nat} {v : Value} (hv : (∃ y, v = .int y) ∨ ∃ a, v = .ref a) {ls' : Array Slot} (h : LR ad L nL ls) (h' : lv_has ls' nL ((i, tr ad v) :: (lvo ad L).filter (fun q => !(q.1 == i) && !(q.1 + 1 == i && q.2.category == 2)))) (hi : i < nL) : LR ad (L.set i v) nL ls' := by
  obtain ⟨k1, k2, k3⟩ := h'
  refine ⟨by rw [List.length_set]; exact h.1, k1, k2, fun j y hj => ?_, fun j a hj => ?_⟩
  · by_cases hji : j = i
    · subst hji
      rw [List.getElem?_set_self (by rw [h.1]; exact hi)] at hj
      cases hj
      exact k3 (j, .int y) List.mem_cons_self
    · rw [List.getElem?_set_ne (Ne.symm hji)] at hj
      refine k3 (j, .int y) (List.mem_cons_of_mem _ (List.mem_filter.mpr ⟨lvo_int hj, ?_⟩))
      simp [hji, Value.category]
  · by_cases hji : j = i
    · subst hji
      rw [List.getElem?_set_self (by rw [h.1]; exact hi)] at hj
      cases hj
      exact k3 (j, .ref (ad a)) List.mem_cons_self
    · rw [List.getElem?_set_ne (Ne.symm hji)] at hj
      refine k3 (j, .ref (ad a)) (List.mem_cons_of_mem _ (List.mem_filter.mpr ⟨lvo_ref hj, ?_⟩))
      simp [hji, Value.category]
theorem ln_small (c : Nat) : ln c < 5000 := by
  unfold ln
  split
  · rename_i h
    have : ∀ c, c < 48 → lnT.getD c 0 < 5000 := by decide +kernel
    exact this c h
  · split <;> decide
/-! The two judgements of the flat machine: Ev (a method's run, by its contract at the machine) and Wp (the rest of a method's run from a pc). -/
def rmO (M : Mt) : Room := { frames := M.2.2.2.2.1, cells := 0, slots := 0, locals := M.2.2.2.2.2 }
def wsO (M : Mt) : List Cond := .code M.1 M.2.1 M.2.2.1 M.2.2.2.1 :: gtbl
def NW (U : State) : Prop := ∀ w ∈ ntbl, va_Nw w U
theorem NW.warm {s U : State} (hW : s.WarmedH U.vm) (h : NW s) : NW U := by
  intro w hw
  have h1 := h w hw
  have h2 := (List.mem_filter.mp hw).2
  cases w <;> first | exact va_Nw.warmF hW h1 | exact va_Nw.warmM hW h1 | (simp [isNest] at h2; done)
theorem isNest_on {w : Cond} (h : isNest w = true) : w.onTables = true := by
  cases w <;> first | rfl | (simp [isNest] at h; done)
theorem NW.same {u U : State} (hv : u.vm = U.vm) (h : NW u) : NW U := fun w hw => va_Nw.same (isNest_on (List.mem_filter.mp hw).2) hv (h w hw)
def QQ (Y : Lay) (Z : Option Value → St → Prop) : Array Value → State → Outcome → State → Prop := fun _ st oc t => (∃ (r : Option Value) (S' : St), oc = .returned (r.map (tr Y.2.2)) ∧ Z r S' ∧ va_P Y.1 zcl (wsf Y S') t.heap) ∧ va_F (AA Y.2.2) st t
def PPc (Y : Lay) (As : List Value) (S : St) : Array Value → State → Prop := va_Pc (As.map (tr Y.2.2)) (fun U => va_P Y.1 zcl (wsf Y S) U.heap ∧ va_K Y.1 zcl (ztys Y) U ∧ NW U)
def Ev (M : Mt) (As : List Value) (S : St) (Z : Option Value → St → Prop) : Prop := ∀ (l : Launch) (Y : Lay), okY Y → Met l M.1 (wsO M) (rmO M) (PPc Y As S) (QQ Y Z) 0 0 (AA Y.2.2)
def Fx (M : Mt) (p : Program) (s : State) (m : MethodId) (args : Array Value) (meth : Method) (c : Code) : Prop := p.tables.exec = Jvm.exec ∧ c.code = M.2.1 ∧ meth.sig.returnType = M.2.2.2.1 ∧ c.maxLocals = M.2.2.1 ∧ s.vm.findClass M.1.cls = some m.cls ∧ (∀ w ∈ wsO M, w.before args s = true) ∧ meth.locks = false ∧ NW s
def Wp (M : Mt) (pc : Nat) (L st : List Value) (S : St) (Z : Option Value → St → Prop) : Prop :=
  ∀ (l : Launch) (Y : Lay), okY Y → ∀ (p : Program) (e : Env) (s : State) (m : MethodId) (args : Array Value) (below : List Frame) (meth : Method) (c : Code), Fx M p s m args meth c → va_K Y.1 zcl (ztys Y) s → ∀ (ls : Array Slot) (H : Heap) (locs : List Loc), LR Y.2.2 L M.2.2.1 ls → va_P Y.1 zcl (wsf Y S) H → va_S (AA Y.2.2) s.heap H locs →
    W p l e (rmO M) s m args below meth c H locs 0 0 (MQ below (QQ Y Z) args s 0 0 (AA Y.2.2)) (F0 m pc ls (st.map (tr Y.2.2)))
theorem PPc_blind (Y : Lay) (As : List Value) (S : St) : FrameBlind (PPc Y As S) := by
  intro a U g mk q
  obtain ⟨q0, qP, qK, qN⟩ := q
  exact ⟨q0, qP, va_K.moved (u := U) (U := U.calling g mk a) (Vm.Alike.refl U.vm) qK, NW.same (u := U) (U := U.calling g mk a) rfl qN⟩
theorem tr_cat1 {ad : Nat → Nat} {v : Value} : (tr ad v).category = v.category := by cases v <;> rfl
theorem lg_sl1 : ∀ (vs : List Value), (∀ v ∈ vs, v.category = 1) → lg_sl vs = vs.map Slot.val
  | [], _ => rfl
  | v :: vs, h => by
    have h1 := h v List.mem_cons_self
    have h2 := lg_sl1 vs (fun w hw => h w (List.mem_cons_of_mem _ hw))
    unfold lg_sl at h2 ⊢
    rw [List.flatMap_cons, h2, if_neg (by omega)]
    rfl
theorem lv_args1 : ∀ (vs : List Value) (b i : Nat) (v : Value), (∀ v ∈ vs, v.category = 1) → vs[i]? = some v → (b + i, v) ∈ lv_args b vs
  | [], b, i, v, _, hi => by simp at hi
  | w :: vs, b, i, v, h, hi => by
    have h1 := h w List.mem_cons_self
    unfold lv_args
    rw [if_neg (by omega)]
    cases i with
    | zero => rw [List.getElem?_cons_zero] at hi; cases hi; exact List.mem_cons_self
    | succ i =>
      rw [List.getElem?_cons_succ] at hi
      have := lv_args1 vs (b + 1) i v (fun w hw => h w (List.mem_cons_of_mem _ hw)) hi
      rw [show b + (i + 1) = b + 1 + i by omega]
      exact List.mem_cons_of_mem _ this
theorem Met.ofWF {l : Launch} {y : MethodName} {ws ws' : List Cond} {rm : Room} {Pc : Array Value → State → Prop} {Qc : Array Value → State → Outcome → State → Prop} {mc ms : Nat} {free : Addr → Prop} {cc : ByteArray} {maxL : Nat} {ret : Option FieldType}
    (hy : plainFor y = true) (hw : ws = Cond.code y cc maxL ret :: ws')
    (body : ∀ p e s m args below meth c s₁, BodyLoose p l y (headSpec ws rm) cc maxL ret e s m args below meth c s₁ → c.maxLocals = maxL → Pc args s →
      W p l e (headSpec ws rm).room s m args below meth c s.heap [] 0 0 (MQ below Qc args s mc ms free) (entryFrame m args maxL)) : Met l y ws rm Pc Qc mc ms free := by
  refine MetFree.of_bodySF (code := cc) (maxLocals := maxL) (ret := ret) hy ?_ ?_
  · intro args s m h hn
    obtain ⟨meth, c, h1, h2, h3, h4, h5, h6, -, -⟩ := Cond.code_spec hn (atoms_spec (ws := ws) h _ (by rw [hw]; exact List.mem_cons_self))
    exact ⟨meth, c, h1, h2, h3, h4, h5, h6⟩
  · intro p e s m args below meth c s₁ B hml hP _
    have hh0 : s₁.heap = s.heap := by rw [B.state]; rfl
    obtain ⟨t, a1, o, b1, b2, b3⟩ := body p e s m args below meth c s₁ B hml hP s₁ hh0 (Stand.of_body B)
    exact ⟨t, o, a1, b1, b2, ⟨b3.1, b3.2⟩⟩
/-- a method's contract out of its walk -/
theorem Ev.of {M : Mt} {As : List Value} {S : St} {Z : Option Value → St → Prop} (hf : MF M) (hc : ∀ v ∈ As, v.category = 1) (hl : As.length ≤ M.2.2.1) (h : Wp M 0 (As ++ List.replicate (M.2.2.1 - As.length) .null) [] S Z) : Ev M As S Z := by
  intro l Y hY
  refine Met.ofWF (cc := M.2.1) (maxL := M.2.2.1) (ret := M.2.2.2.1) hf.2.2.2.2 rfl ?_
  intro p e s m args below meth c s₁ B hml hv
  obtain ⟨rfl, hP, hK, hN⟩ := hv
  have hts := atoms_spec (ws := wsO M) B.pre
  have hown : s.vm.findClass M.1.cls = some m.cls := findClass_of_methodNamed B.named
  have hca : ∀ v ∈ As.map (tr Y.2.2), v.category = 1 := by
    intro v hv
    obtain ⟨w, hw, rfl⟩ := List.mem_map.mp hv
    rw [tr_cat1]
    exact hc w hw
  have hlen : (lg_sl (As.map (tr Y.2.2))).length ≤ M.2.2.1 := by rw [lg_sl1 _ hca, List.length_map, List.length_map]; exact hl
  obtain ⟨k1, k2, k3⟩ := lv_entry (As.map (tr Y.2.2)) (n := M.2.2.1) hlen
  rw [lg_entry_eq]
  refine h l Y hY p e s m _ below meth c ⟨B.exec, B.bytes, B.returns, hml, hown, hts, B.notSynchronized, hN⟩ hK _ _ _ ⟨?_, k1, k2, fun i y hi => ?_, fun i a hi => ?_⟩ hP va_S.rf
  · rw [List.length_append, List.length_replicate]; omega
  · by_cases hil : i < As.length
    · rw [List.getElem?_append_left hil] at hi
      have h1 := lv_args1 (As.map (tr Y.2.2)) 0 i (.int y) hca (by rw [List.getElem?_map, hi]; rfl)
      rw [Nat.zero_add] at h1
      exact k3 _ h1
    · rw [List.getElem?_append_right (by omega)] at hi
      have := List.eq_of_mem_replicate (List.mem_of_getElem? hi)
      cases this
  · by_cases hil : i < As.length
    · rw [List.getElem?_append_left hil] at hi
      have h1 := lv_args1 (As.map (tr Y.2.2)) 0 i (.ref (Y.2.2 a)) hca (by rw [List.getElem?_map, hi]; rfl)
      rw [Nat.zero_add] at h1
      exact k3 _ h1
    · rw [List.getElem?_append_right (by omega)] at hi
      have := List.eq_of_mem_replicate (List.mem_of_getElem? hi)
      cases this
theorem Ev.mono {M : Mt} {As : List Value} {S : St} {Z Z' : Option Value → St → Prop} (h : Ev M As S Z) (hz : ∀ r S', Z r S' → Z' r S') : Ev M As S Z' := by
  intro l Y hY
  have h1 := h l Y hY
  unfold Met at h1 ⊢
  intro p e ha hc hk s m args below hf happ hpre hK
  obtain ⟨k, o, h1, h2, h3, ⟨⟨⟨r, S', q1, q2, q3⟩, qF⟩, hL⟩⟩ := h1 p e ha hc hk s m args below hf happ hpre hK
  exact ⟨k, o, h1, h2, h3, ⟨⟨r, S', q1, hz r S' q2, q3⟩, qF⟩, hL⟩
end
section
theorem w_iconst {M : Mt} {pc : Nat} {L st : List Value} {S : St} {Z : Option Value → St → Prop} {n : Int} {v : Int32} (hd : decode M.2.1 pc = .ok (.iconst n, 1)) (hv : Int32.ofInt n = v) (h : Wp M (pc + 1) L (.int v :: st) S Z) : Wp M pc L (st) S Z := by
  intro l Y hY p e s m args below meth c X hK ls H locs hL hP hS
  exact lv_iconst X.1 X.2.1 hd hv (h l Y hY p e s m args below meth c X hK ls H locs hL hP hS)
theorem w_bipush {M : Mt} {pc : Nat} {L st : List Value} {S : St} {Z : Option Value → St → Prop} {n : Int} {v : Int32} (hd : decode M.2.1 pc = .ok (.bipush n, 2)) (hv : (Int8.ofInt n).toInt32 = v) (h : Wp M (pc + 2) L (.int v :: st) S Z) : Wp M pc L (st) S Z := by
  intro l Y hY p e s m args below meth c X hK ls H locs hL hP hS
  exact lv_bipush X.1 X.2.1 hd hv (h l Y hY p e s m args below meth c X hK ls H locs hL hP hS)
theorem w_sipush {M : Mt} {pc : Nat} {L st : List Value} {S : St} {Z : Option Value → St → Prop} {n : Int} {v : Int32} (hd : decode M.2.1 pc = .ok (.sipush n, 3)) (hv : (Int16.ofInt n).toInt32 = v) (h : Wp M (pc + 3) L (.int v :: st) S Z) : Wp M pc L (st) S Z := by
  intro l Y hY p e s m args below meth c X hK ls H locs hL hP hS
  exact lv_sipush X.1 X.2.1 hd hv (h l Y hY p e s m args below meth c X hK ls H locs hL hP hS)
theorem w_iload_n {M : Mt} {pc : Nat} {L st : List Value} {S : St} {Z : Option Value → St → Prop} {k : Fin 4} {y : Int32} (hd : decode M.2.1 pc = .ok (.iload_n k, 1)) (hl : L[k.val]? = some (.int y)) (h : Wp M (pc + 1) L (.int y :: st) S Z) : Wp M pc L (st) S Z := by
  intro l Y hY p e s m args below meth c X hK ls H locs hL hP hS
  exact lv_iload_n X.1 X.2.1 hd rfl (hL.2.2.2.1 _ _ hl) (h l Y hY p e s m args below meth c X hK ls H locs hL hP hS)
theorem w_iload {M : Mt} {pc : Nat} {L st : List Value} {S : St} {Z : Option Value → St → Prop} {k : Nat} {y : Int32} (hd : decode M.2.1 pc = .ok (.iload k, 2)) (hl : L[k]? = some (.int y)) (h : Wp M (pc + 2) L (.int y :: st) S Z) : Wp M pc L (st) S Z := by
  intro l Y hY p e s m args below meth c X hK ls H locs hL hP hS
  exact lv_iload X.1 X.2.1 hd (hL.2.2.2.1 _ _ hl) (h l Y hY p e s m args below meth c X hK ls H locs hL hP hS)
theorem w_aload_n {M : Mt} {pc : Nat} {L st : List Value} {S : St} {Z : Option Value → St → Prop} {k : Fin 4} {a : Nat} (hd : decode M.2.1 pc = .ok (.aload_n k, 1)) (hl : L[k.val]? = some (.ref a)) (h : Wp M (pc + 1) L (.ref a :: st) S Z) : Wp M pc L (st) S Z := by
  intro l Y hY p e s m args below meth c X hK ls H locs hL hP hS
  exact lv_aload_n X.1 X.2.1 hd rfl (hL.2.2.2.2 _ _ hl) (h l Y hY p e s m args below meth c X hK ls H locs hL hP hS)
theorem w_aload {M : Mt} {pc : Nat} {L st : List Value} {S : St} {Z : Option Value → St → Prop} {k : Nat} {a : Nat} (hd : decode M.2.1 pc = .ok (.aload k, 2)) (hl : L[k]? = some (.ref a)) (h : Wp M (pc + 2) L (.ref a :: st) S Z) : Wp M pc L (st) S Z := by
  intro l Y hY p e s m args below meth c X hK ls H locs hL hP hS
  exact lv_aload X.1 X.2.1 hd (hL.2.2.2.2 _ _ hl) (h l Y hY p e s m args below meth c X hK ls H locs hL hP hS)
theorem w_istore_n {M : Mt} {pc : Nat} {L st : List Value} {S : St} {Z : Option Value → St → Prop} {k : Fin 4} {y : Int32} (hd : decode M.2.1 pc = .ok (.istore_n k, 1)) (hk : k.val < L.length) (h : Wp M (pc + 1) (L.set k.val (.int y)) st S Z) : Wp M pc L (.int y :: st) S Z := by
  intro l Y hY p e s m args below meth c X hK ls H locs hL hP hS
  exact lv_istore_n X.1 X.2.1 hd rfl hL.has (by rw [← hL.1]; exact hk) rfl (fun ls' hL' => (h l Y hY p e s m args below meth c X hK ls' H locs (LR.of (Or.inl ⟨_, rfl⟩) hL hL' (by rw [← hL.1]; exact hk)) hP hS))
theorem w_istore {M : Mt} {pc : Nat} {L st : List Value} {S : St} {Z : Option Value → St → Prop} {k : Nat} {y : Int32} (hd : decode M.2.1 pc = .ok (.istore k, 2)) (hk : k < L.length) (h : Wp M (pc + 2) (L.set k (.int y)) st S Z) : Wp M pc L (.int y :: st) S Z := by
  intro l Y hY p e s m args below meth c X hK ls H locs hL hP hS
  exact lv_istore X.1 X.2.1 hd hL.has (by rw [← hL.1]; exact hk) rfl (fun ls' hL' => (h l Y hY p e s m args below meth c X hK ls' H locs (LR.of (Or.inl ⟨_, rfl⟩) hL hL' (by rw [← hL.1]; exact hk)) hP hS))
theorem w_astore_n {M : Mt} {pc : Nat} {L st : List Value} {S : St} {Z : Option Value → St → Prop} {k : Fin 4} {a : Nat} (hd : decode M.2.1 pc = .ok (.astore_n k, 1)) (hk : k.val < L.length) (h : Wp M (pc + 1) (L.set k.val (.ref a)) st S Z) : Wp M pc L (.ref a :: st) S Z := by
  intro l Y hY p e s m args below meth c X hK ls H locs hL hP hS
  exact lv_astore_n X.1 X.2.1 hd rfl hL.has (by rw [← hL.1]; exact hk) rfl (fun ls' hL' => (h l Y hY p e s m args below meth c X hK ls' H locs (LR.of (Or.inr ⟨_, rfl⟩) hL hL' (by rw [← hL.1]; exact hk)) hP hS))
theorem w_astore {M : Mt} {pc : Nat} {L st : List Value} {S : St} {Z : Option Value → St → Prop} {k : Nat} {a : Nat} (hd : decode M.2.1 pc = .ok (.astore k, 2)) (hk : k < L.length) (h : Wp M (pc + 2) (L.set k (.ref a)) st S Z) : Wp M pc L (.ref a :: st) S Z := by
  intro l Y hY p e s m args below meth c X hK ls H locs hL hP hS
  exact lv_astore X.1 X.2.1 hd hL.has (by rw [← hL.1]; exact hk) rfl (fun ls' hL' => (h l Y hY p e s m args below meth c X hK ls' H locs (LR.of (Or.inr ⟨_, rfl⟩) hL hL' (by rw [← hL.1]; exact hk)) hP hS))
theorem w_iinc {M : Mt} {pc : Nat} {L st : List Value} {S : St} {Z : Option Value → St → Prop} {k : Nat} {n : Int} {y v : Int32} (hd : decode M.2.1 pc = .ok (.iinc k n, 3)) (hl : L[k]? = some (.int y)) (hv : y + Int32.ofInt n = v) (h : Wp M (pc + 3) (L.set k (.int v)) st S Z) : Wp M pc L st S Z := by
  intro l Y hY p e s m args below meth c X hK ls H locs hL hP hS
  have hk : k < L.length := (List.getElem?_eq_some_iff.mp hl).1
  obtain ⟨j, hj⟩ := List.getElem?_of_mem (lvo_int (ad := Y.2.2) hl)
  exact lv_iinc X.1 X.2.1 hd hL.has hj hv (by rw [← hL.1]; exact hk) rfl (fun ls' hL' => (h l Y hY p e s m args below meth c X hK ls' H locs (LR.of (Or.inl ⟨_, rfl⟩) hL hL' (by rw [← hL.1]; exact hk)) hP hS))
theorem w_iadd {M : Mt} {pc : Nat} {L st : List Value} {S : St} {Z : Option Value → St → Prop} {x1 y : Int32} (hd : decode M.2.1 pc = .ok (.iadd, 1)) (h : Wp M (pc + 1) L (.int (x1 + y) :: st) S Z) : Wp M pc L (.int y :: .int x1 :: st) S Z := by
  intro l Y hY p e s m args below meth c X hK ls H locs hL hP hS
  exact lv_iadd X.1 X.2.1 hd (h l Y hY p e s m args below meth c X hK ls H locs hL hP hS)
theorem w_isub {M : Mt} {pc : Nat} {L st : List Value} {S : St} {Z : Option Value → St → Prop} {x1 y : Int32} (hd : decode M.2.1 pc = .ok (.isub, 1)) (h : Wp M (pc + 1) L (.int (x1 - y) :: st) S Z) : Wp M pc L (.int y :: .int x1 :: st) S Z := by
  intro l Y hY p e s m args below meth c X hK ls H locs hL hP hS
  exact lv_isub X.1 X.2.1 hd (h l Y hY p e s m args below meth c X hK ls H locs hL hP hS)
theorem w_imul {M : Mt} {pc : Nat} {L st : List Value} {S : St} {Z : Option Value → St → Prop} {x1 y : Int32} (hd : decode M.2.1 pc = .ok (.imul, 1)) (h : Wp M (pc + 1) L (.int (x1 * y) :: st) S Z) : Wp M pc L (.int y :: .int x1 :: st) S Z := by
  intro l Y hY p e s m args below meth c X hK ls H locs hL hP hS
  exact lv_imul X.1 X.2.1 hd (h l Y hY p e s m args below meth c X hK ls H locs hL hP hS)
theorem w_iand {M : Mt} {pc : Nat} {L st : List Value} {S : St} {Z : Option Value → St → Prop} {x1 y : Int32} (hd : decode M.2.1 pc = .ok (.iand, 1)) (h : Wp M (pc + 1) L (.int (x1 &&& y) :: st) S Z) : Wp M pc L (.int y :: .int x1 :: st) S Z := by
  intro l Y hY p e s m args below meth c X hK ls H locs hL hP hS
  exact lv_iand X.1 X.2.1 hd (h l Y hY p e s m args below meth c X hK ls H locs hL hP hS)
theorem w_ior {M : Mt} {pc : Nat} {L st : List Value} {S : St} {Z : Option Value → St → Prop} {x1 y : Int32} (hd : decode M.2.1 pc = .ok (.ior, 1)) (h : Wp M (pc + 1) L (.int (x1 ||| y) :: st) S Z) : Wp M pc L (.int y :: .int x1 :: st) S Z := by
  intro l Y hY p e s m args below meth c X hK ls H locs hL hP hS
  exact lv_ior X.1 X.2.1 hd (h l Y hY p e s m args below meth c X hK ls H locs hL hP hS)
theorem w_ixor {M : Mt} {pc : Nat} {L st : List Value} {S : St} {Z : Option Value → St → Prop} {x1 y : Int32} (hd : decode M.2.1 pc = .ok (.ixor, 1)) (h : Wp M (pc + 1) L (.int (x1 ^^^ y) :: st) S Z) : Wp M pc L (.int y :: .int x1 :: st) S Z := by
  intro l Y hY p e s m args below meth c X hK ls H locs hL hP hS
  exact lv_ixor X.1 X.2.1 hd (h l Y hY p e s m args below meth c X hK ls H locs hL hP hS)
theorem w_ishl {M : Mt} {pc : Nat} {L st : List Value} {S : St} {Z : Option Value → St → Prop} {x1 y : Int32} (hd : decode M.2.1 pc = .ok (.ishl, 1)) (h : Wp M (pc + 1) L (.int (x1 <<< (y &&& 31)) :: st) S Z) : Wp M pc L (.int y :: .int x1 :: st) S Z := by
  intro l Y hY p e s m args below meth c X hK ls H locs hL hP hS
  exact lv_ishl X.1 X.2.1 hd (h l Y hY p e s m args below meth c X hK ls H locs hL hP hS)
theorem w_idiv {M : Mt} {pc : Nat} {L st : List Value} {S : St} {Z : Option Value → St → Prop} {x1 y : Int32} (hd : decode M.2.1 pc = .ok (.idiv, 1)) (hne : ¬ y = 0) (h : Wp M (pc + 1) L (.int (x1 / y) :: st) S Z) : Wp M pc L (.int y :: .int x1 :: st) S Z := by
  intro l Y hY p e s m args below meth c X hK ls H locs hL hP hS
  exact lv_idiv X.1 X.2.1 hd hne (h l Y hY p e s m args below meth c X hK ls H locs hL hP hS)
theorem w_irem {M : Mt} {pc : Nat} {L st : List Value} {S : St} {Z : Option Value → St → Prop} {x1 y : Int32} (hd : decode M.2.1 pc = .ok (.irem, 1)) (hne : ¬ y = 0) (h : Wp M (pc + 1) L (.int (x1 - x1 / y * y) :: st) S Z) : Wp M pc L (.int y :: .int x1 :: st) S Z := by
  intro l Y hY p e s m args below meth c X hK ls H locs hL hP hS
  exact lv_irem X.1 X.2.1 hd hne (h l Y hY p e s m args below meth c X hK ls H locs hL hP hS)
theorem w_ineg {M : Mt} {pc : Nat} {L st : List Value} {S : St} {Z : Option Value → St → Prop} {y : Int32} (hd : decode M.2.1 pc = .ok (.ineg, 1)) (h : Wp M (pc + 1) L (.int (-y) :: st) S Z) : Wp M pc L (.int y :: st) S Z := by
  intro l Y hY p e s m args below meth c X hK ls H locs hL hP hS
  exact lv_ineg X.1 X.2.1 hd (h l Y hY p e s m args below meth c X hK ls H locs hL hP hS)
theorem w_dup {M : Mt} {pc : Nat} {L st : List Value} {S : St} {Z : Option Value → St → Prop} {v : Value} (hd : decode M.2.1 pc = .ok (.dup, 1)) (hv : v.category = 1) (h : Wp M (pc + 1) L (v :: v :: st) S Z) : Wp M pc L (v :: st) S Z := by
  intro l Y hY p e s m args below meth c X hK ls H locs hL hP hS
  exact lv_dup X.1 X.2.1 hd (by rw [tr_cat1]; exact hv) (h l Y hY p e s m args below meth c X hK ls H locs hL hP hS)
theorem w_dup2 {M : Mt} {pc : Nat} {L st : List Value} {S : St} {Z : Option Value → St → Prop} {v w : Value} (hd : decode M.2.1 pc = .ok (.dup2, 1)) (hv : v.category = 1) (hw : w.category = 1) (h : Wp M (pc + 1) L (v :: w :: v :: w :: st) S Z) : Wp M pc L (v :: w :: st) S Z := by
  intro l Y hY p e s m args below meth c X hK ls H locs hL hP hS
  exact lv_dup2_11 X.1 X.2.1 hd (by rw [tr_cat1]; exact hv) (by rw [tr_cat1]; exact hw) (h l Y hY p e s m args below meth c X hK ls H locs hL hP hS)
theorem w_pop {M : Mt} {pc : Nat} {L st : List Value} {S : St} {Z : Option Value → St → Prop} {v : Value} (hd : decode M.2.1 pc = .ok (.pop, 1)) (hv : v.category = 1) (h : Wp M (pc + 1) L st S Z) : Wp M pc L (v :: st) S Z := by
  intro l Y hY p e s m args below meth c X hK ls H locs hL hP hS
  exact lv_pop X.1 X.2.1 hd (by rw [tr_cat1]; exact hv) (h l Y hY p e s m args below meth c X hK ls H locs hL hP hS)
theorem w_goto {M : Mt} {pc : Nat} {L st : List Value} {S : St} {Z : Option Value → St → Prop} {off : Int} (tgt : Nat) (hd : decode M.2.1 pc = .ok (.goto off, 3)) (ht : (pc : Int) + off = (tgt : Int)) (h : Wp M tgt L st S Z) : Wp M pc L (st) S Z := by
  intro l Y hY p e s m args below meth c X hK ls H locs hL hP hS
  exact lv_goto X.1 X.2.1 hd ht (h l Y hY p e s m args below meth c X hK ls H locs hL hP hS)
theorem w_if_eq {M : Mt} {pc : Nat} {L st : List Value} {S : St} {Z : Option Value → St → Prop} {x1 : Int32} {off : Int} (tgt : Nat) (hd : decode M.2.1 pc = .ok (.ifCond .eq off, 3)) (ht : (pc : Int) + off = (tgt : Int)) (ht1 : x1 = 0 → Wp M tgt L st S Z) (hf1 : ¬ x1 = 0 → Wp M (pc + 3) L st S Z) : Wp M pc L (.int x1 :: st) S Z := by
  intro l Y hY p e s m args below meth c X hK ls H locs hL hP hS
  exact lv_if_eq X.1 X.2.1 hd ht (fun hq => (ht1 hq l Y hY p e s m args below meth c X hK ls H locs hL hP hS)) (fun hq => (hf1 hq l Y hY p e s m args below meth c X hK ls H locs hL hP hS))
theorem w_icmp_eq {M : Mt} {pc : Nat} {L st : List Value} {S : St} {Z : Option Value → St → Prop} {x1 y : Int32} {off : Int} (tgt : Nat) (hd : decode M.2.1 pc = .ok (.if_icmp .eq off, 3)) (ht : (pc : Int) + off = (tgt : Int)) (ht1 : x1 = y → Wp M tgt L st S Z) (hf1 : ¬ x1 = y → Wp M (pc + 3) L st S Z) : Wp M pc L (.int y :: .int x1 :: st) S Z := by
  intro l Y hY p e s m args below meth c X hK ls H locs hL hP hS
  exact lv_icmp_eq X.1 X.2.1 hd ht (fun hq => (ht1 hq l Y hY p e s m args below meth c X hK ls H locs hL hP hS)) (fun hq => (hf1 hq l Y hY p e s m args below meth c X hK ls H locs hL hP hS))
theorem w_if_ne {M : Mt} {pc : Nat} {L st : List Value} {S : St} {Z : Option Value → St → Prop} {x1 : Int32} {off : Int} (tgt : Nat) (hd : decode M.2.1 pc = .ok (.ifCond .ne off, 3)) (ht : (pc : Int) + off = (tgt : Int)) (ht1 : ¬ x1 = 0 → Wp M tgt L st S Z) (hf1 : x1 = 0 → Wp M (pc + 3) L st S Z) : Wp M pc L (.int x1 :: st) S Z := by
  intro l Y hY p e s m args below meth c X hK ls H locs hL hP hS
  exact lv_if_ne X.1 X.2.1 hd ht (fun hq => (ht1 hq l Y hY p e s m args below meth c X hK ls H locs hL hP hS)) (fun hq => (hf1 hq l Y hY p e s m args below meth c X hK ls H locs hL hP hS))
theorem w_icmp_ne {M : Mt} {pc : Nat} {L st : List Value} {S : St} {Z : Option Value → St → Prop} {x1 y : Int32} {off : Int} (tgt : Nat) (hd : decode M.2.1 pc = .ok (.if_icmp .ne off, 3)) (ht : (pc : Int) + off = (tgt : Int)) (ht1 : ¬ x1 = y → Wp M tgt L st S Z) (hf1 : x1 = y → Wp M (pc + 3) L st S Z) : Wp M pc L (.int y :: .int x1 :: st) S Z := by
  intro l Y hY p e s m args below meth c X hK ls H locs hL hP hS
  exact lv_icmp_ne X.1 X.2.1 hd ht (fun hq => (ht1 hq l Y hY p e s m args below meth c X hK ls H locs hL hP hS)) (fun hq => (hf1 hq l Y hY p e s m args below meth c X hK ls H locs hL hP hS))
theorem w_if_lt {M : Mt} {pc : Nat} {L st : List Value} {S : St} {Z : Option Value → St → Prop} {x1 : Int32} {off : Int} (tgt : Nat) (hd : decode M.2.1 pc = .ok (.ifCond .lt off, 3)) (ht : (pc : Int) + off = (tgt : Int)) (ht1 : x1 < 0 → Wp M tgt L st S Z) (hf1 : ¬ x1 < 0 → Wp M (pc + 3) L st S Z) : Wp M pc L (.int x1 :: st) S Z := by
  intro l Y hY p e s m args below meth c X hK ls H locs hL hP hS
  exact lv_if_lt X.1 X.2.1 hd ht (fun hq => (ht1 hq l Y hY p e s m args below meth c X hK ls H locs hL hP hS)) (fun hq => (hf1 hq l Y hY p e s m args below meth c X hK ls H locs hL hP hS))
theorem w_icmp_lt {M : Mt} {pc : Nat} {L st : List Value} {S : St} {Z : Option Value → St → Prop} {x1 y : Int32} {off : Int} (tgt : Nat) (hd : decode M.2.1 pc = .ok (.if_icmp .lt off, 3)) (ht : (pc : Int) + off = (tgt : Int)) (ht1 : x1 < y → Wp M tgt L st S Z) (hf1 : ¬ x1 < y → Wp M (pc + 3) L st S Z) : Wp M pc L (.int y :: .int x1 :: st) S Z := by
  intro l Y hY p e s m args below meth c X hK ls H locs hL hP hS
  exact lv_icmp_lt X.1 X.2.1 hd ht (fun hq => (ht1 hq l Y hY p e s m args below meth c X hK ls H locs hL hP hS)) (fun hq => (hf1 hq l Y hY p e s m args below meth c X hK ls H locs hL hP hS))
theorem w_if_ge {M : Mt} {pc : Nat} {L st : List Value} {S : St} {Z : Option Value → St → Prop} {x1 : Int32} {off : Int} (tgt : Nat) (hd : decode M.2.1 pc = .ok (.ifCond .ge off, 3)) (ht : (pc : Int) + off = (tgt : Int)) (ht1 : 0 ≤ x1 → Wp M tgt L st S Z) (hf1 : ¬ 0 ≤ x1 → Wp M (pc + 3) L st S Z) : Wp M pc L (.int x1 :: st) S Z := by
  intro l Y hY p e s m args below meth c X hK ls H locs hL hP hS
  exact lv_if_ge X.1 X.2.1 hd ht (fun hq => (ht1 hq l Y hY p e s m args below meth c X hK ls H locs hL hP hS)) (fun hq => (hf1 hq l Y hY p e s m args below meth c X hK ls H locs hL hP hS))
theorem w_icmp_ge {M : Mt} {pc : Nat} {L st : List Value} {S : St} {Z : Option Value → St → Prop} {x1 y : Int32} {off : Int} (tgt : Nat) (hd : decode M.2.1 pc = .ok (.if_icmp .ge off, 3)) (ht : (pc : Int) + off = (tgt : Int)) (ht1 : y ≤ x1 → Wp M tgt L st S Z) (hf1 : ¬ y ≤ x1 → Wp M (pc + 3) L st S Z) : Wp M pc L (.int y :: .int x1 :: st) S Z := by
  intro l Y hY p e s m args below meth c X hK ls H locs hL hP hS
  exact lv_icmp_ge X.1 X.2.1 hd ht (fun hq => (ht1 hq l Y hY p e s m args below meth c X hK ls H locs hL hP hS)) (fun hq => (hf1 hq l Y hY p e s m args below meth c X hK ls H locs hL hP hS))
theorem w_if_gt {M : Mt} {pc : Nat} {L st : List Value} {S : St} {Z : Option Value → St → Prop} {x1 : Int32} {off : Int} (tgt : Nat) (hd : decode M.2.1 pc = .ok (.ifCond .gt off, 3)) (ht : (pc : Int) + off = (tgt : Int)) (ht1 : 0 < x1 → Wp M tgt L st S Z) (hf1 : ¬ 0 < x1 → Wp M (pc + 3) L st S Z) : Wp M pc L (.int x1 :: st) S Z := by
  intro l Y hY p e s m args below meth c X hK ls H locs hL hP hS
  exact lv_if_gt X.1 X.2.1 hd ht (fun hq => (ht1 hq l Y hY p e s m args below meth c X hK ls H locs hL hP hS)) (fun hq => (hf1 hq l Y hY p e s m args below meth c X hK ls H locs hL hP hS))
theorem w_icmp_gt {M : Mt} {pc : Nat} {L st : List Value} {S : St} {Z : Option Value → St → Prop} {x1 y : Int32} {off : Int} (tgt : Nat) (hd : decode M.2.1 pc = .ok (.if_icmp .gt off, 3)) (ht : (pc : Int) + off = (tgt : Int)) (ht1 : y < x1 → Wp M tgt L st S Z) (hf1 : ¬ y < x1 → Wp M (pc + 3) L st S Z) : Wp M pc L (.int y :: .int x1 :: st) S Z := by
  intro l Y hY p e s m args below meth c X hK ls H locs hL hP hS
  exact lv_icmp_gt X.1 X.2.1 hd ht (fun hq => (ht1 hq l Y hY p e s m args below meth c X hK ls H locs hL hP hS)) (fun hq => (hf1 hq l Y hY p e s m args below meth c X hK ls H locs hL hP hS))
theorem w_if_le {M : Mt} {pc : Nat} {L st : List Value} {S : St} {Z : Option Value → St → Prop} {x1 : Int32} {off : Int} (tgt : Nat) (hd : decode M.2.1 pc = .ok (.ifCond .le off, 3)) (ht : (pc : Int) + off = (tgt : Int)) (ht1 : x1 ≤ 0 → Wp M tgt L st S Z) (hf1 : ¬ x1 ≤ 0 → Wp M (pc + 3) L st S Z) : Wp M pc L (.int x1 :: st) S Z := by
  intro l Y hY p e s m args below meth c X hK ls H locs hL hP hS
  exact lv_if_le X.1 X.2.1 hd ht (fun hq => (ht1 hq l Y hY p e s m args below meth c X hK ls H locs hL hP hS)) (fun hq => (hf1 hq l Y hY p e s m args below meth c X hK ls H locs hL hP hS))
theorem w_icmp_le {M : Mt} {pc : Nat} {L st : List Value} {S : St} {Z : Option Value → St → Prop} {x1 y : Int32} {off : Int} (tgt : Nat) (hd : decode M.2.1 pc = .ok (.if_icmp .le off, 3)) (ht : (pc : Int) + off = (tgt : Int)) (ht1 : x1 ≤ y → Wp M tgt L st S Z) (hf1 : ¬ x1 ≤ y → Wp M (pc + 3) L st S Z) : Wp M pc L (.int y :: .int x1 :: st) S Z := by
  intro l Y hY p e s m args below meth c X hK ls H locs hL hP hS
  exact lv_icmp_le X.1 X.2.1 hd ht (fun hq => (ht1 hq l Y hY p e s m args below meth c X hK ls H locs hL hP hS)) (fun hq => (hf1 hq l Y hY p e s m args below meth c X hK ls H locs hL hP hS))
theorem w_ret {M : Mt} {pc : Nat} {L st : List Value} {S : St} {Z : Option Value → St → Prop} (hr : M.2.2.2.1 = none) (hd : decode M.2.1 pc = .ok (.return_, 1)) (h : Z none S) : Wp M pc L ([]) S Z := by
  intro l Y hY p e s m args below meth c X hK ls H locs hL hP hS
  exact W.vret X.1 X.2.1 (X.2.2.1.trans hr) (fun t ht hW => ⟨⟨none, S, rfl, h, by rw [ht]; exact hP⟩, hS.F ht⟩) hS.2.2 hd X.2.2.2.2.2.2.1
theorem w_iret {M : Mt} {pc : Nat} {L st : List Value} {S : St} {Z : Option Value → St → Prop} {y : Int32} (hr : M.2.2.2.1 = some .int) (hd : decode M.2.1 pc = .ok (.ireturn, 1)) (h : Z (some (.int y)) S) : Wp M pc L ([.int y]) S Z := by
  intro l Y hY p e s m args below meth c X hK ls H locs hL hP hS
  exact W.iret X.1 X.2.1 (X.2.2.1.trans hr) (fun t ht hW => ⟨⟨some (.int y), S, rfl, h, by rw [ht]; exact hP⟩, hS.F ht⟩) hS.2.2 hd X.2.2.2.2.2.2.1
theorem w_zret {M : Mt} {pc : Nat} {L st : List Value} {S : St} {Z : Option Value → St → Prop} {y : Int32} (hr : M.2.2.2.1 = some .boolean) (hd : decode M.2.1 pc = .ok (.ireturn, 1)) (hy : y = 0 ∨ y = 1) (h : Z (some (.int y)) S) : Wp M pc L ([.int y]) S Z := by
  intro l Y hY p e s m args below meth c X hK ls H locs hL hP hS
  exact W.zret X.1 X.2.1 (X.2.2.1.trans hr) (by rcases hy with rfl | rfl <;> decide +kernel) (fun t ht hW => ⟨⟨some (.int y), S, rfl, h, by rw [ht]; exact hP⟩, hS.F ht⟩) hS.2.2 hd X.2.2.2.2.2.2.1

theorem cel_obj {Y : Lay} {S : St} {a ci : Nat} (h : kd a = 4 + ci) : cel Y S a = .inr (ci, (List.range (nfT.getD ci 0)).map (fvl Y.2.2 S a)) := by
  unfold cel
  rw [if_neg (by omega), if_neg (by omega), if_neg (by omega), if_neg (by omega), h, show 4 + ci - 4 = ci by omega]
theorem zcl_len {ci : Nat} {C : String} {T : u_T} {N : Nat} (h : zcl[ci]? = some (C, T, N)) : nfT.getD ci 0 = N := by
  match ci, h with
  | 0, h | 1, h | 2, h | 3, h | 4, h | 5, h | 6, h | 7, h | 8, h | 9, h => cases h; rfl
theorem fvl_at {Y : Lay} {S : St} {a n k : Nat} (hk : k < n) : ((List.range n).map (fvl Y.2.2 S a))[k]? = some (fvl Y.2.2 S a k) := by
  rw [List.getElem?_map, List.getElem?_range hk]
  rfl
theorem w_get {M : Mt} {pc : Nat} {L st : List Value} {S : St} {Z : Option Value → St → Prop} {idx ci k a : Nat} {v : Value} (hd : decode M.2.1 pc = .ok (.getfield idx, 3)) (hf : FL M.1.cls idx ci k) (ha : a < 204) (hk : kd a = 4 + ci) (hv : (match fref a k with | some d => Value.ref d | none => .int (S.1 a k)) = v) (h : Wp M (pc + 3) L (v :: st) S Z) : Wp M pc L (.ref a :: st) S Z := by
  intro l Y hY p e s m args below meth c X hK ls H locs hL hP hS
  obtain ⟨C, T, N, h1, h2, h3, h4⟩ := hf
  have hw := (wsf_at (Y := Y) (S := S) ha)
  rw [cel_obj hk] at hw
  have hfs := fvl_at (Y := Y) (S := S) (a := a) (n := nfT.getD ci 0) (k := k) (by rw [zcl_len h1]; exact h2)
  have e1 : fvl Y.2.2 S a k = tr Y.2.2 v := by
    rw [← hv]
    unfold fvl
    cases fref a k <;> rfl
  rw [e1] at hfs
  have go := h l Y hY p e s m args below meth c X hK ls H locs hL hP hS
  rcases h4 with h4 | ⟨host, h4⟩
  · exact va_get X.1 X.2.1 X.2.2.2.2.2.1 (fun w hw => List.mem_cons_of_mem _ ((zcf h1).1 w hw)) X.2.2.2.2.1 hK hP a hw h1 k h2 (X.2.2.2.2.2.1 _ (List.mem_cons_of_mem _ h4)) (fun x9 h9 => by rw [h3] at h9; exact h9) hfs hd go
  · exact va_getN X.1 X.2.1 X.2.2.2.2.2.1 (fun w hw => List.mem_cons_of_mem _ ((zcf h1).1 w hw)) X.2.2.2.2.1 hK hP a hw h1 k h2 (va_Nw.use rfl (X.2.2.2.2.2.2.2 _ h4)) (fun x9 h9 => by rw [h3] at h9; exact h9) hfs hd go
theorem fvl_set {Y : Lay} {S : St} {a k n : Nat} {v : Int32} (hk : k < n) (hr : fref a k = none) : ((List.range n).map (fvl Y.2.2 S a)).set k (.int v) = (List.range n).map (fvl Y.2.2 (up2 S.1 a k v, S.2) a) := by
  apply List.ext_getElem?
  intro j
  by_cases hj : j = k
  · subst hj
    rw [List.getElem?_set_self (by rw [List.length_map, List.length_range]; exact hk), fvl_at hk]
    unfold fvl
    rw [hr]
    show _ = some (Value.int (up2 S.1 a j v a j))
    rw [up2_same]
  · rw [List.getElem?_set_ne (Ne.symm hj)]
    by_cases hjn : j < n
    · rw [fvl_at hjn, fvl_at hjn]
      unfold fvl
      cases fref a j with
      | some _ => rfl
      | none => show _ = some (Value.int (up2 S.1 a k v a j)); rw [up2_ne (fun q => hj q.2)]
    · rw [List.getElem?_eq_none (by rw [List.length_map, List.length_range]; omega), List.getElem?_eq_none (by rw [List.length_map, List.length_range]; omega)]
theorem w_put {M : Mt} {pc : Nat} {L st : List Value} {S : St} {Z : Option Value → St → Prop} {idx ci k a : Nat} {v : Int32} {ty : FieldType} (hd : decode M.2.1 pc = .ok (.putfield idx, 3)) (hf : FL M.1.cls idx ci k) (hw : FW ci k ty) (ha : a < 204) (hk : kd a = 4 + ci) (hr : fref a k = none) (hn : narrow ty (.int v) = .int v) (hfit : fits ty (.int v) = true) (h : Wp M (pc + 3) L st (up2 S.1 a k v, S.2) Z) : Wp M pc L (.int v :: .ref a :: st) S Z := by
  intro l Y hY p e s m args below meth c X hK ls H locs hL hP hS
  obtain ⟨C, T, N, h1, h2, h3, h4⟩ := hf
  obtain ⟨w1, w2⟩ := hw C T N h1
  obtain ⟨z1, ⟨t0, z2⟩, z3⟩ := zcf h1
  have hwa := (wsf_at (Y := Y) (S := S) ha)
  rw [cel_obj hk] at hwa
  have hkn : k < nfT.getD ci 0 := by rw [zcl_len h1]; exact h2
  have go : ∀ (H1 : Heap) (locs1 : List Loc), va_P Y.1 zcl ((wsf Y S).set a (Y.2.2 a, .inr (ci, ((List.range (nfT.getD ci 0)).map (fvl Y.2.2 S a)).set k (.int v)))) H1 → va_D (AA Y.2.2) ((wsf Y S).set a (Y.2.2 a, .inr (ci, ((List.range (nfT.getD ci 0)).map (fvl Y.2.2 S a)).set k (.int v)))) → va_S (AA Y.2.2) s.heap H1 locs1 → W p l e (rmO M) s m args below meth c H1 locs1 0 0 (MQ below (QQ Y Z) args s 0 0 (AA Y.2.2)) (F0 m (pc + 3) ls (st.map (tr Y.2.2))) := by
    intro H1 locs1 hP1 _ hS1
    rw [fvl_set hkn hr, ← cel_obj (Y := Y) (S := (up2 S.1 a k v, S.2)) hk, wsf_set (fun d hd => cel_up2 hd)] at hP1
    exact h l Y hY p e s m args below meth c X hK ls H1 locs1 hL hP1 hS1
  rcases h4 with h4 | ⟨host, h4⟩
  · exact va_put X.1 X.2.1 X.2.2.2.2.2.1 (fun w hw => List.mem_cons_of_mem _ (z1 w hw)) t0 z2 z3 X.2.2.2.2.1 hK hP (wsf_D hY S) hS a hwa h1 k h2 (X.2.2.2.2.2.1 _ (List.mem_cons_of_mem _ h4)) (fun x9 h9 => by rw [h3] at h9; exact h9) w1 w2 hn hfit (by rw [List.length_map, List.length_range]; exact hkn) hd go
  · exact va_putN X.1 X.2.1 X.2.2.2.2.2.1 (fun w hw => List.mem_cons_of_mem _ (z1 w hw)) t0 z2 z3 X.2.2.2.2.1 hK hP (wsf_D hY S) hS a hwa h1 k h2 (va_Nw.use rfl (X.2.2.2.2.2.2.2 _ h4)) (fun x9 h9 => by rw [h3] at h9; exact h9) w1 w2 hn hfit (by rw [List.length_map, List.length_range]; exact hkn) hd go
theorem cel_int {Y : Lay} {S : St} {a : Nat} (h : kd a = 0) : cel Y S a = .inl (Y.2.1 0, ln a, .inl (S.1 a)) := by
  unfold cel
  rw [if_pos h]
theorem cel_boo {Y : Lay} {S : St} {a : Nat} (h : kd a = 1) : cel Y S a = .inl (Y.2.1 1, ln a, .inl (S.1 a)) := by
  unfold cel
  rw [if_neg (by omega), if_pos h]
theorem cel_grd {Y : Lay} {S : St} {a : Nat} (h : kd a = 2) : cel Y S a = .inl (Y.2.1 2, ln a, .inr (.inr (.inr (.inr (fun i => some (Y.2.2 (gbase a + i))))))) := by
  unfold cel
  rw [if_neg (by omega), if_neg (by omega), if_pos h]
theorem cel_ent {Y : Lay} {S : St} {a : Nat} (h : kd a = 3) : cel Y S a = .inl (Y.2.1 3, ln a, .inr (.inr (.inr (.inr (fun i => some (Y.2.2 (S.2 i))))))) := by
  unfold cel
  rw [if_neg (by omega), if_neg (by omega), if_neg (by omega), if_pos h]
/-- loads: the place is the number n -/
theorem w_iald {M : Mt} {pc : Nat} {L st : List Value} {S : St} {Z : Option Value → St → Prop} {a n : Nat} {i : Int32} (hd : decode M.2.1 pc = .ok (.iaload, 1)) (hi : i = nI n) (ha : a < 204) (hk : kd a = 0) (hn : n < ln a) (h : Wp M (pc + 1) L (.int (S.1 a n) :: st) S Z) : Wp M pc L (.int i :: .ref a :: st) S Z := by
  intro l Y hY p e s m args below meth c X hK ls H locs hL hP hS
  have hwa := (wsf_at (Y := Y) (S := S) ha)
  rw [cel_int hk] at hwa
  have hb := ln_small a
  have go := h l Y hY p e s m args below meth c X hK ls H locs hL hP hS
  subst hi
  refine va_iald X.1 X.2.1 hK hP a 0 hwa rfl (vp_in_nI hn (by omega)) hd ?_
  rw [nI_clamp (by omega)]
  exact go
theorem w_bald {M : Mt} {pc : Nat} {L st : List Value} {S : St} {Z : Option Value → St → Prop} {a n : Nat} {i : Int32} (hd : decode M.2.1 pc = .ok (.baload, 1)) (hi : i = nI n) (ha : a < 204) (hk : kd a = 1) (hn : n < ln a) (h : Wp M (pc + 1) L (.int (S.1 a n) :: st) S Z) : Wp M pc L (.int i :: .ref a :: st) S Z := by
  intro l Y hY p e s m args below meth c X hK ls H locs hL hP hS
  have hwa := (wsf_at (Y := Y) (S := S) ha)
  rw [cel_boo hk] at hwa
  have hb := ln_small a
  have go := h l Y hY p e s m args below meth c X hK ls H locs hL hP hS
  subst hi
  refine va_zald X.1 X.2.1 hK hP a 1 hwa rfl (vp_in_nI hn (by omega)) hd ?_
  rw [nI_clamp (by omega)]
  exact go
theorem w_aald {M : Mt} {pc : Nat} {L st : List Value} {S : St} {Z : Option Value → St → Prop} {a n : Nat} {i : Int32} (hd : decode M.2.1 pc = .ok (.aaload, 1)) (hi : i = nI n) (ha : a < 204) (hk : kd a = 2) (hn : n < ln a) (h : Wp M (pc + 1) L (.ref (gbase a + n) :: st) S Z) : Wp M pc L (.int i :: .ref a :: st) S Z := by
  intro l Y hY p e s m args below meth c X hK ls H locs hL hP hS
  have hwa := (wsf_at (Y := Y) (S := S) ha)
  rw [cel_grd hk] at hwa
  have hb := ln_small a
  have go := h l Y hY p e s m args below meth c X hK ls H locs hL hP hS
  subst hi
  have hin : vp_in (nI n) (ln a) := vp_in_nI hn (by omega)
  have ht : (ztys Y)[2]? = some (Y.2.1 2, .array .int) := rfl
  refine W.aald (v := .ref (Y.2.2 (gbase a + n))) (ty := .array .int) X.1 X.2.1 (hP a _ hwa) ((hK.2 2 _ ht).1 (ln a) (fun j => va_rf (some (Y.2.2 (gbase a + j))))) rfl (fun q => by cases q) (by show ¬ (nI n < 0 ∨ (arrV _ _ _).slots.size ≤ _); rw [arrV_size]; exact hin) (by show (arrV _ _ _).slots[_]? = _; rw [nI_clamp (by omega), arrV_read _ _ hn]; rfl) rfl rfl hd go
theorem w_eald {M : Mt} {pc : Nat} {L st : List Value} {S : St} {Z : Option Value → St → Prop} {a n : Nat} {i : Int32} (hd : decode M.2.1 pc = .ok (.aaload, 1)) (hi : i = nI n) (ha : a < 204) (hk : kd a = 3) (hn : n < ln a) (h : Wp M (pc + 1) L (.ref (S.2 n) :: st) S Z) : Wp M pc L (.int i :: .ref a :: st) S Z := by
  intro l Y hY p e s m args below meth c X hK ls H locs hL hP hS
  have hwa := (wsf_at (Y := Y) (S := S) ha)
  rw [cel_ent hk] at hwa
  have hb := ln_small a
  have go := h l Y hY p e s m args below meth c X hK ls H locs hL hP hS
  subst hi
  refine va_aldq X.1 X.2.1 hK hP a 3 hwa rfl (vp_in_nI hn (by omega)) hd ?_
  rw [nI_clamp (by omega)]
  exact go
theorem w_iast {M : Mt} {pc : Nat} {L st : List Value} {S : St} {Z : Option Value → St → Prop} {a n : Nat} {i v : Int32} (hd : decode M.2.1 pc = .ok (.iastore, 1)) (hi : i = nI n) (ha : a < 204) (hk : kd a = 0) (hn : n < ln a) (h : Wp M (pc + 1) L st (up2 S.1 a n v, S.2) Z) : Wp M pc L (.int v :: .int i :: .ref a :: st) S Z := by
  intro l Y hY p e s m args below meth c X hK ls H locs hL hP hS
  have hwa := (wsf_at (Y := Y) (S := S) ha)
  rw [cel_int hk] at hwa
  have hb := ln_small a
  subst hi
  refine va_iast X.1 X.2.1 hK hP (wsf_D hY S) hS a 0 hwa rfl (vp_in_nI hn (by omega)) hd ?_
  intro H1 locs1 hP1 _ hS1
  rw [nI_clamp (by omega), ← up2_upd, show (Sum.inl (Y.2.1 0, ln a, Sum.inl (up2 S.1 a n v a)) : va_E) = cel Y (up2 S.1 a n v, S.2) a from (cel_int (Y := Y) (S := (up2 S.1 a n v, S.2)) hk).symm, wsf_set (fun d hd => cel_up2 hd)] at hP1
  exact h l Y hY p e s m args below meth c X hK ls H1 locs1 hL hP1 hS1
theorem w_bast {M : Mt} {pc : Nat} {L st : List Value} {S : St} {Z : Option Value → St → Prop} {a n : Nat} {i v : Int32} (hd : decode M.2.1 pc = .ok (.bastore, 1)) (hi : i = nI n) (ha : a < 204) (hk : kd a = 1) (hn : n < ln a) (hv : v = 0 ∨ v = 1) (h : Wp M (pc + 1) L st (up2 S.1 a n v, S.2) Z) : Wp M pc L (.int v :: .int i :: .ref a :: st) S Z := by
  intro l Y hY p e s m args below meth c X hK ls H locs hL hP hS
  have hwa := (wsf_at (Y := Y) (S := S) ha)
  rw [cel_boo hk] at hwa
  have hb := ln_small a
  subst hi
  refine va_zast X.1 X.2.1 hK hP (wsf_D hY S) hS a 1 hwa rfl (vp_in_nI hn (by omega)) hd ?_
  intro H1 locs1 hP1 _ hS1
  have hv1 : vp_nar .boolean v = v := by rcases hv with rfl | rfl <;> decide +kernel
  rw [nI_clamp (by omega), hv1, ← up2_upd, show (Sum.inl (Y.2.1 1, ln a, Sum.inl (up2 S.1 a n v a)) : va_E) = cel Y (up2 S.1 a n v, S.2) a from (cel_boo (Y := Y) (S := (up2 S.1 a n v, S.2)) hk).symm, wsf_set (fun d hd => cel_up2 hd)] at hP1
  exact h l Y hY p e s m args below meth c X hK ls H1 locs1 hL hP1 hS1
def upT (f : Nat → Nat) (i v : Nat) : Nat → Nat := fun j => if j = i then v else f j
theorem cel_upT {Y : Lay} {S : St} {i v d : Nat} (h : d ≠ 19) : cel Y (S.1, upT S.2 i v) d = cel Y S d := by
  have h3 : kd d ≠ 3 := by
    unfold kd
    repeat' split
    all_goals omega
  unfold cel
  rw [if_neg h3, if_neg h3]
  rfl
theorem w_east {M : Mt} {pc : Nat} {L st : List Value} {S : St} {Z : Option Value → St → Prop} {n b : Nat} {i : Int32} (hd : decode M.2.1 pc = .ok (.aastore, 1)) (hi : i = nI n) (hn : n < 20) (hb1 : 124 ≤ b) (hb2 : b < 144) (h : Wp M (pc + 1) L st (S.1, upT S.2 n b) Z) : Wp M pc L (.ref b :: .int i :: .ref 19 :: st) S Z := by
  intro l Y hY p e s m args below meth c X hK ls H locs hL hP hS
  have hwa := (wsf_at (Y := Y) (S := S) (c := 19) (by decide))
  rw [cel_ent (by decide)] at hwa
  have hwb := (wsf_at (Y := Y) (S := S) (c := b) (by omega))
  have hkb : kd b = 4 + 9 := by
    unfold kd
    rw [if_neg (by omega), if_neg (by omega), if_neg (by omega), if_neg (by omega), if_pos ⟨hb1, hb2⟩]
  rw [cel_obj hkb] at hwb
  subst hi
  refine va_astq X.1 X.2.1 hK hP (wsf_D hY S) hS 19 3 b 9 hwa rfl hwb rfl (vp_in_nI (show n < ln 19 from hn) (by decide)) hd ?_
  intro H1 locs1 hP1 _ hS1
  rw [nI_clamp (by omega)] at hP1
  have e1 : va_up (fun i => some (Y.2.2 (S.2 i))) n (some (Y.2.2 b)) = fun i => some (Y.2.2 (upT S.2 n b i)) := by
    funext j
    unfold va_up upT
    by_cases hj : j = n
    · rw [if_pos hj, if_pos hj]
    · rw [if_neg hj, if_neg hj]
  rw [e1, show (Sum.inl (Y.2.1 3, ln 19, Sum.inr (Sum.inr (Sum.inr (Sum.inr (fun i => some (Y.2.2 (upT S.2 n b i))))))) : va_E) = cel Y (S.1, upT S.2 n b) 19 from (cel_ent (S := (S.1, upT S.2 n b)) (by decide)).symm, wsf_set (fun d hd => cel_upT hd)] at hP1
  exact h l Y hY p e s m args below meth c X hK ls H1 locs1 hL hP1 hS1
theorem good_in {M N : Mt} (h : Cond.code N.1 N.2.1 N.2.2.1 N.2.2.2.1 ∈ gtbl) : GoodIn (wsO M) (wsO N) := by
  intro w hw
  rcases List.mem_cons.mp hw with rfl | hw
  · exact ⟨List.mem_cons_of_mem _ h, good_of_word (List.mem_filter.mp h).2⟩
  · exact ⟨List.mem_cons_of_mem _ hw, good_of_word (List.mem_filter.mp hw).2⟩
theorem tr_map_cat {ad : Nat → Nat} : ∀ {r : List Value}, (∀ v ∈ r, v.category = 1) → ((r.map (tr ad)).map fun v => v.category).sum = r.length
  | [], _ => rfl
  | v :: r, h => by
    rw [List.map_cons, List.map_cons, List.sum_cons, tr_cat1, h v List.mem_cons_self, tr_map_cat (fun w hw => h w (List.mem_cons_of_mem _ hw)), List.length_cons]
    omega
/-- behind a call -/
theorem w_back {M : Mt} {pc : Nat} {L rest : List Value} {Z : Option Value → St → Prop} {l : Launch} {Y : Lay} (hY : okY Y) {p : Program} {e : Env} {s : State} {m : MethodId} {args : Array Value} {below : List Frame} {meth : Method} {c : Code} (X : Fx M p s m args meth c) (hK : va_K Y.1 zcl (ztys Y) s) {ls : Array Slot} {H : Heap} {locs : List Loc} (hL : LR Y.2.2 L M.2.2.1 ls) (hS : va_S (AA Y.2.2) s.heap H locs) {st0 : List Value} {a : Array Value}
    (hr : va_Run p l e (rmO M) s m args below meth c H locs 0 0 0 0 (F0 m pc ls st0) (rest.map (tr Y.2.2)) (QQ Y (fun r S' => Wp M (pc + 3) L (r.toList ++ rest) S' Z) a) (AA Y.2.2)) : W p l e (rmO M) s m args below meth c H locs 0 0 (MQ below (QQ Y Z) args s 0 0 (AA Y.2.2)) (F0 m pc ls st0) := by
  intro T hT X1
  obtain ⟨v, st₀, t, T', L1, h0, X', hL1, e1, e2, ⟨⟨r, S', hv, hw, hP1⟩, hz, hk⟩, st⟩ := hr T hT X1
  have hv : v = r.map (tr Y.2.2) := Outcome.returned.inj hv
  subst hv
  rw [h0] at hz hk
  have hS1 : va_S (AA Y.2.2) s.heap T'.heap (locs ++ L1) := ⟨Nat.le_trans hS.1 (by rw [e1]; exact hz), fun q h1 h2 => by rw [e1, hk q (Nat.lt_of_lt_of_le h1 hS.1) h2]; exact hS.2.1 q h1 h2, fun q hq => by
      rcases List.mem_append.mp hq with h | h
      · exact hS.2.2 q h
      · exact hL1 q h⟩
  obtain ⟨t2, a1, b1⟩ := hw l Y hY p e s m args below meth c X hK ls T'.heap (locs ++ L1) hL (by rw [e1]; exact hP1) hS1 T' rfl X'
  refine ⟨t2, st t2 ?_, b1⟩
  have e3 : (r.toList ++ rest).map (tr Y.2.2) = (r.map (tr Y.2.2)).toList ++ rest.map (tr Y.2.2) := by
    rw [List.map_append]
    cases r <;> rfl
  rw [e3] at a1
  exact a1
theorem w_callV {M N : Mt} {pc : Nat} {L st : List Value} {S : St} {Z : Option Value → St → Prop} {idx b n ci : Nat} {T : u_T} {nf : Nat} (As rest : List Value) (hd : decode M.2.1 pc = .ok (.invokevirtual idx, 3)) (hl : LK M.1.cls idx N.1) (hf : MF N) (hm : MV N) (hp : NP N n) (hR : N.2.2.2.2.1 + 1 ≤ M.2.2.2.2.1 ∧ 8 + (N.2.2.1 + 11) + N.2.2.2.2.2 ≤ M.2.2.2.2.2) (hn : As.length = n) (hst : st = As.reverse ++ .ref b :: rest) (hc : ∀ v ∈ rest, v.category = 1) (hrl : rest.length ≤ 8) (hb : b < 204) (hk : kd b = 4 + ci) (hcl : zcl[ci]? = some (N.1.cls, T, nf))
    (h : Ev N (.ref b :: As) S (fun r S' => Wp M (pc + 3) L (r.toList ++ rest) S' Z)) : Wp M pc L st S Z := by
  intro l Y hY p e s m args below meth c X hK ls H locs hL hP hS
  have hwb := (wsf_at (Y := Y) (S := S) hb)
  rw [cel_obj hk] at hwb
  have hrec := va_recv hK hP hcl hwb
  have hM := h l Y hY
  have ok := X.2.2.2.2.2.1
  have hpre : PreV s H N.1.cls (Y.2.2 b) (PPc Y (.ref b :: As) S) (As.map (tr Y.2.2)) := ⟨PPc_blind _ _ _, hrec, fun U hU hW => ⟨rfl, by rw [hU]; exact hP, va_K.moved hW.alike hK, NW.warm hW X.2.2.2.2.2.2.2⟩⟩
  have hstk : (F0 m pc ls (st.map (tr Y.2.2))).stack = (As.map (tr Y.2.2)).reverse ++ .ref (Y.2.2 b) :: rest.map (tr Y.2.2) := by
    show st.map (tr Y.2.2) = _
    rw [hst, List.map_append, List.map_reverse]
    rfl
  have hw8 : 2 * (F0 m pc ls (st.map (tr Y.2.2))).monitorRoom + ((rest.map (tr Y.2.2)).map fun v => v.category).sum ≤ 8 := lv_room (by rw [tr_map_cat hc]; exact hrl)
  have hlen : (As.map (tr Y.2.2)).length = n := by rw [List.length_map]; exact hn
  refine w_back (rest := rest) (a := (Value.ref (Y.2.2 b) :: As.map (tr Y.2.2)).toArray) hY X hK hL hS ?_
  rcases hl with hl | ⟨host, hl⟩
  · exact va_runV (cc := M.2.1) (nL := M.2.2.1) (Ts := wsO M) (own := M.1.cls) (As := As.map (tr Y.2.2)) (rest := rest.map (tr Y.2.2)) ⟨X.1, X.2.1, X.2.2.2.1, X.2.2.2.2.1, ok⟩ hM ⟨callB_of n ok (good_in hf.1) rfl rfl rfl (ok _ (List.mem_cons_of_mem _ hf.2.1)) (ok _ (List.mem_cons_of_mem _ hl)) ⟨hf.2.2.1, hf.2.2.2.1, hp⟩ hR, ok _ (List.mem_cons_of_mem _ hm.1), ok _ (List.mem_cons_of_mem _ hm.2)⟩ hpre rfl hlen hL.2.1 hstk hw8 hd ⟨Nat.le_refl _, Nat.le_refl _⟩
  · exact va_runVN (cc := M.2.1) (nL := M.2.2.1) (Ts := wsO M) (own := M.1.cls) (As := As.map (tr Y.2.2)) (rest := rest.map (tr Y.2.2)) ⟨X.1, X.2.1, X.2.2.2.1, X.2.2.2.2.1, ok⟩ hM ⟨va_cnB n ok (good_in hf.1) rfl rfl rfl (X.2.2.2.2.2.2.2 _ hl) (ok _ (List.mem_cons_of_mem _ hf.2.1)) ⟨hf.2.2.1, hf.2.2.2.1, hp⟩ hR, ok _ (List.mem_cons_of_mem _ hm.1), ok _ (List.mem_cons_of_mem _ hm.2)⟩ hpre rfl hlen hL.2.1 hstk hw8 hd ⟨Nat.le_refl _, Nat.le_refl _⟩
theorem w_callS {M N : Mt} {pc : Nat} {L st : List Value} {S : St} {Z : Option Value → St → Prop} {idx n : Nat} (As rest : List Value) (hd : decode M.2.1 pc = .ok (.invokestatic idx, 3)) (hl : LK M.1.cls idx N.1) (hf : MF N) (hm : MS N) (hp : NP N n) (hR : N.2.2.2.2.1 + 1 ≤ M.2.2.2.2.1 ∧ 8 + (N.2.2.1 + 11) + N.2.2.2.2.2 ≤ M.2.2.2.2.2) (hn : As.length = n) (hst : st = As.reverse ++ rest) (hc : ∀ v ∈ rest, v.category = 1) (hrl : rest.length ≤ 8)
    (h : Ev N As S (fun r S' => Wp M (pc + 3) L (r.toList ++ rest) S' Z)) : Wp M pc L st S Z := by
  intro l Y hY p e s m args below meth c X hK ls H locs hL hP hS
  have hM := h l Y hY
  have ok := X.2.2.2.2.2.1
  have hpre : PreS s H (PPc Y As S) (As.map (tr Y.2.2)) := ⟨PPc_blind _ _ _, fun U hU hW => ⟨rfl, by rw [hU]; exact hP, va_K.moved hW.alike hK, NW.warm hW X.2.2.2.2.2.2.2⟩⟩
  have hstk : (F0 m pc ls (st.map (tr Y.2.2))).stack = (As.map (tr Y.2.2)).reverse ++ rest.map (tr Y.2.2) := by
    show st.map (tr Y.2.2) = _
    rw [hst, List.map_append, List.map_reverse]
  have hw8 : 2 * (F0 m pc ls (st.map (tr Y.2.2))).monitorRoom + ((rest.map (tr Y.2.2)).map fun v => v.category).sum ≤ 8 := lv_room (by rw [tr_map_cat hc]; exact hrl)
  have hlen : (As.map (tr Y.2.2)).length = n := by rw [List.length_map]; exact hn
  refine w_back (rest := rest) (a := (As.map (tr Y.2.2)).toArray) hY X hK hL hS ?_
  rcases hl with hl | ⟨host, hl⟩
  · exact va_runS (cc := M.2.1) (nL := M.2.2.1) (Ts := wsO M) (own := M.1.cls) (As := As.map (tr Y.2.2)) (rest := rest.map (tr Y.2.2)) ⟨X.1, X.2.1, X.2.2.2.1, X.2.2.2.2.1, ok⟩ hM ⟨callB_of n ok (good_in hf.1) rfl rfl rfl (ok _ (List.mem_cons_of_mem _ hf.2.1)) (ok _ (List.mem_cons_of_mem _ hl)) ⟨hf.2.2.1, hf.2.2.2.1, hp⟩ hR, ok _ (List.mem_cons_of_mem _ hm)⟩ hpre rfl hlen hL.2.1 hstk hw8 hd ⟨Nat.le_refl _, Nat.le_refl _⟩
  · exact va_runSN (cc := M.2.1) (nL := M.2.2.1) (Ts := wsO M) (own := M.1.cls) (As := As.map (tr Y.2.2)) (rest := rest.map (tr Y.2.2)) ⟨X.1, X.2.1, X.2.2.2.1, X.2.2.2.2.1, ok⟩ hM ⟨va_cnB n ok (good_in hf.1) rfl rfl rfl (X.2.2.2.2.2.2.2 _ hl) (ok _ (List.mem_cons_of_mem _ hf.2.1)) ⟨hf.2.2.1, hf.2.2.2.1, hp⟩ hR, ok _ (List.mem_cons_of_mem _ hm), trivial⟩ hpre rfl hlen hL.2.1 hstk hw8 hd ⟨Nat.le_refl _, Nat.le_refl _⟩
end
section
theorem nI_inc (a : Nat) : nI a + Int32.ofInt 1 = nI (a + 1) := nI_1 a
theorem nI_inc2 (a : Nat) : nI a + Int32.ofInt 2 = nI (a + 2) := nI_add a 2
theorem nI_dec (a : Nat) : nI (a + 1) + Int32.ofInt (-1) = nI a := pk_m1 a
theorem nI_decP {a : Nat} (h : 0 < a) : nI a + Int32.ofInt (-1) = nI (a - 1) := by
  obtain ⟨b, rfl⟩ : ∃ b, a = b + 1 := ⟨a - 1, by omega⟩
  exact nI_dec b
theorem w_iaddN {M : Mt} {pc : Nat} {L st : List Value} {S : St} {Z : Option Value → St → Prop} {a b : Nat} (hd : decode M.2.1 pc = .ok (.iadd, 1)) (h : Wp M (pc + 1) L (.int (nI (a + b)) :: st) S Z) : Wp M pc L (.int (nI b) :: .int (nI a) :: st) S Z := by
  exact w_iadd hd (by rw [nI_add]; exact h)
theorem w_imulN {M : Mt} {pc : Nat} {L st : List Value} {S : St} {Z : Option Value → St → Prop} {a b : Nat} (hd : decode M.2.1 pc = .ok (.imul, 1)) (h : Wp M (pc + 1) L (.int (nI (a * b)) :: st) S Z) : Wp M pc L (.int (nI b) :: .int (nI a) :: st) S Z := by
  exact w_imul hd (by rw [pk_mul]; exact h)
theorem w_isubN {M : Mt} {pc : Nat} {L st : List Value} {S : St} {Z : Option Value → St → Prop} {a b : Nat} (hd : decode M.2.1 pc = .ok (.isub, 1)) (hab : b ≤ a) (h : Wp M (pc + 1) L (.int (nI (a - b)) :: st) S Z) : Wp M pc L (.int (nI b) :: .int (nI a) :: st) S Z := by
  exact w_isub hd (by rw [pk_sub hab]; exact h)
theorem w_idivN {M : Mt} {pc : Nat} {L st : List Value} {S : St} {Z : Option Value → St → Prop} {a b : Nat} (hd : decode M.2.1 pc = .ok (.idiv, 1)) (ha : a < 2 ^ 31) (h0 : 0 < b) (hb : b < 2 ^ 31) (h : Wp M (pc + 1) L (.int (nI (a / b)) :: st) S Z) : Wp M pc L (.int (nI b) :: .int (nI a) :: st) S Z := by
  exact w_idiv hd (nI_ne0 h0 hb) (by rw [pk_div ha h0 hb]; exact h)
theorem w_iremN {M : Mt} {pc : Nat} {L st : List Value} {S : St} {Z : Option Value → St → Prop} {a b : Nat} (hd : decode M.2.1 pc = .ok (.irem, 1)) (ha : a < 2 ^ 31) (h0 : 0 < b) (hb : b < 2 ^ 31) (h : Wp M (pc + 1) L (.int (nI (a % b)) :: st) S Z) : Wp M pc L (.int (nI b) :: .int (nI a) :: st) S Z := by
  exact w_irem hd (nI_ne0 h0 hb) (by rw [pk_rem ha h0 hb]; exact h)
theorem w_iincN {M : Mt} {pc : Nat} {L st : List Value} {S : St} {Z : Option Value → St → Prop} {k a : Nat} (hd : decode M.2.1 pc = .ok (.iinc k 1, 3)) (hl : L[k]? = some (.int (nI a))) (h : Wp M (pc + 3) (L.set k (.int (nI (a + 1)))) st S Z) : Wp M pc L (st) S Z := by
  exact w_iinc hd hl (nI_inc a) h
theorem w_iincN2 {M : Mt} {pc : Nat} {L st : List Value} {S : St} {Z : Option Value → St → Prop} {k a : Nat} (hd : decode M.2.1 pc = .ok (.iinc k 2, 3)) (hl : L[k]? = some (.int (nI a))) (h : Wp M (pc + 3) (L.set k (.int (nI (a + 2)))) st S Z) : Wp M pc L (st) S Z := by
  exact w_iinc hd hl (nI_inc2 a) h
theorem w_idecN {M : Mt} {pc : Nat} {L st : List Value} {S : St} {Z : Option Value → St → Prop} {k a : Nat} (hd : decode M.2.1 pc = .ok (.iinc k (-1), 3)) (hl : L[k]? = some (.int (nI a))) (h0 : 0 < a) (h : Wp M (pc + 3) (L.set k (.int (nI (a - 1)))) st S Z) : Wp M pc L (st) S Z := by
  exact w_iinc hd hl (nI_decP h0) h
theorem w_icmp_eqN {M : Mt} {pc : Nat} {L st : List Value} {S : St} {Z : Option Value → St → Prop} {a b : Nat} {off : Int} (tgt : Nat) (hd : decode M.2.1 pc = .ok (.if_icmp .eq off, 3)) (ht : (pc : Int) + off = (tgt : Int)) (ha : a < 2 ^ 31) (hb : b < 2 ^ 31) (ht1 : a = b → Wp M tgt L st S Z) (hf1 : a ≠ b → Wp M (pc + 3) L st S Z) : Wp M pc L (.int (nI b) :: .int (nI a) :: st) S Z := by
  exact w_icmp_eq tgt hd ht (fun q => ht1 ((nI_eq ha hb).mp q)) (fun q => hf1 (fun r => q ((nI_eq ha hb).mpr r)))
theorem w_icmp_neN {M : Mt} {pc : Nat} {L st : List Value} {S : St} {Z : Option Value → St → Prop} {a b : Nat} {off : Int} (tgt : Nat) (hd : decode M.2.1 pc = .ok (.if_icmp .ne off, 3)) (ht : (pc : Int) + off = (tgt : Int)) (ha : a < 2 ^ 31) (hb : b < 2 ^ 31) (ht1 : a ≠ b → Wp M tgt L st S Z) (hf1 : a = b → Wp M (pc + 3) L st S Z) : Wp M pc L (.int (nI b) :: .int (nI a) :: st) S Z := by
  exact w_icmp_ne tgt hd ht (fun q => ht1 (fun r => q ((nI_eq ha hb).mpr r))) (fun q => hf1 ((nI_eq ha hb).mp q))
theorem w_icmp_ltN {M : Mt} {pc : Nat} {L st : List Value} {S : St} {Z : Option Value → St → Prop} {a b : Nat} {off : Int} (tgt : Nat) (hd : decode M.2.1 pc = .ok (.if_icmp .lt off, 3)) (ht : (pc : Int) + off = (tgt : Int)) (ha : a < 2 ^ 31) (hb : b < 2 ^ 31) (ht1 : a < b → Wp M tgt L st S Z) (hf1 : b ≤ a → Wp M (pc + 3) L st S Z) : Wp M pc L (.int (nI b) :: .int (nI a) :: st) S Z := by
  exact w_icmp_lt tgt hd ht (fun q => ht1 ((nI_ltI ha hb).mp q)) (fun q => hf1 (Nat.not_lt.mp (fun r => q ((nI_ltI ha hb).mpr r))))
theorem w_icmp_geN {M : Mt} {pc : Nat} {L st : List Value} {S : St} {Z : Option Value → St → Prop} {a b : Nat} {off : Int} (tgt : Nat) (hd : decode M.2.1 pc = .ok (.if_icmp .ge off, 3)) (ht : (pc : Int) + off = (tgt : Int)) (ha : a < 2 ^ 31) (hb : b < 2 ^ 31) (ht1 : b ≤ a → Wp M tgt L st S Z) (hf1 : a < b → Wp M (pc + 3) L st S Z) : Wp M pc L (.int (nI b) :: .int (nI a) :: st) S Z := by
  exact w_icmp_ge tgt hd ht (fun q => ht1 ((nI_leI hb ha).mp q)) (fun q => hf1 (Nat.not_le.mp (fun r => q ((nI_leI hb ha).mpr r))))
theorem w_icmp_gtN {M : Mt} {pc : Nat} {L st : List Value} {S : St} {Z : Option Value → St → Prop} {a b : Nat} {off : Int} (tgt : Nat) (hd : decode M.2.1 pc = .ok (.if_icmp .gt off, 3)) (ht : (pc : Int) + off = (tgt : Int)) (ha : a < 2 ^ 31) (hb : b < 2 ^ 31) (ht1 : b < a → Wp M tgt L st S Z) (hf1 : a ≤ b → Wp M (pc + 3) L st S Z) : Wp M pc L (.int (nI b) :: .int (nI a) :: st) S Z := by
  exact w_icmp_gt tgt hd ht (fun q => ht1 ((nI_ltI hb ha).mp q)) (fun q => hf1 (Nat.not_lt.mp (fun r => q ((nI_ltI hb ha).mpr r))))
theorem w_icmp_leN {M : Mt} {pc : Nat} {L st : List Value} {S : St} {Z : Option Value → St → Prop} {a b : Nat} {off : Int} (tgt : Nat) (hd : decode M.2.1 pc = .ok (.if_icmp .le off, 3)) (ht : (pc : Int) + off = (tgt : Int)) (ha : a < 2 ^ 31) (hb : b < 2 ^ 31) (ht1 : a ≤ b → Wp M tgt L st S Z) (hf1 : b < a → Wp M (pc + 3) L st S Z) : Wp M pc L (.int (nI b) :: .int (nI a) :: st) S Z := by
  exact w_icmp_le tgt hd ht (fun q => ht1 ((nI_leI ha hb).mp q)) (fun q => hf1 (Nat.not_le.mp (fun r => q ((nI_leI ha hb).mpr r))))
theorem w_if_eqN {M : Mt} {pc : Nat} {L st : List Value} {S : St} {Z : Option Value → St → Prop} {a : Nat} {off : Int} (tgt : Nat) (hd : decode M.2.1 pc = .ok (.ifCond .eq off, 3)) (ht : (pc : Int) + off = (tgt : Int)) (ha : a < 2 ^ 31) (ht1 : a = 0 → Wp M tgt L st S Z) (hf1 : a ≠ 0 → Wp M (pc + 3) L st S Z) : Wp M pc L (.int (nI a) :: st) S Z := by
  exact w_if_eq tgt hd ht (fun q => ht1 ((nI_eq ha (show 0 < 2 ^ 31 by decide)).mp q)) (fun q => hf1 (fun r => q ((nI_eq ha (show 0 < 2 ^ 31 by decide)).mpr r)))
theorem w_if_neN {M : Mt} {pc : Nat} {L st : List Value} {S : St} {Z : Option Value → St → Prop} {a : Nat} {off : Int} (tgt : Nat) (hd : decode M.2.1 pc = .ok (.ifCond .ne off, 3)) (ht : (pc : Int) + off = (tgt : Int)) (ha : a < 2 ^ 31) (ht1 : a ≠ 0 → Wp M tgt L st S Z) (hf1 : a = 0 → Wp M (pc + 3) L st S Z) : Wp M pc L (.int (nI a) :: st) S Z := by
  exact w_if_ne tgt hd ht (fun q => ht1 (fun r => q ((nI_eq ha (show 0 < 2 ^ 31 by decide)).mpr r))) (fun q => hf1 ((nI_eq ha (show 0 < 2 ^ 31 by decide)).mp q))
theorem w_if_ltN {M : Mt} {pc : Nat} {L st : List Value} {S : St} {Z : Option Value → St → Prop} {a : Nat} {off : Int} (tgt : Nat) (hd : decode M.2.1 pc = .ok (.ifCond .lt off, 3)) (ht : (pc : Int) + off = (tgt : Int)) (ha : a < 2 ^ 31) (ht1 : a < 0 → Wp M tgt L st S Z) (hf1 : 0 ≤ a → Wp M (pc + 3) L st S Z) : Wp M pc L (.int (nI a) :: st) S Z := by
  exact w_if_lt tgt hd ht (fun q => ht1 ((nI_ltI ha (show 0 < 2 ^ 31 by decide)).mp q)) (fun q => hf1 (Nat.not_lt.mp (fun r => q ((nI_ltI ha (show 0 < 2 ^ 31 by decide)).mpr r))))
theorem w_if_geN {M : Mt} {pc : Nat} {L st : List Value} {S : St} {Z : Option Value → St → Prop} {a : Nat} {off : Int} (tgt : Nat) (hd : decode M.2.1 pc = .ok (.ifCond .ge off, 3)) (ht : (pc : Int) + off = (tgt : Int)) (ha : a < 2 ^ 31) (ht1 : 0 ≤ a → Wp M tgt L st S Z) (hf1 : a < 0 → Wp M (pc + 3) L st S Z) : Wp M pc L (.int (nI a) :: st) S Z := by
  exact w_if_ge tgt hd ht (fun q => ht1 ((nI_leI (show 0 < 2 ^ 31 by decide) ha).mp q)) (fun q => hf1 (Nat.not_le.mp (fun r => q ((nI_leI (show 0 < 2 ^ 31 by decide) ha).mpr r))))
theorem w_if_gtN {M : Mt} {pc : Nat} {L st : List Value} {S : St} {Z : Option Value → St → Prop} {a : Nat} {off : Int} (tgt : Nat) (hd : decode M.2.1 pc = .ok (.ifCond .gt off, 3)) (ht : (pc : Int) + off = (tgt : Int)) (ha : a < 2 ^ 31) (ht1 : 0 < a → Wp M tgt L st S Z) (hf1 : a ≤ 0 → Wp M (pc + 3) L st S Z) : Wp M pc L (.int (nI a) :: st) S Z := by
  exact w_if_gt tgt hd ht (fun q => ht1 ((nI_ltI (show 0 < 2 ^ 31 by decide) ha).mp q)) (fun q => hf1 (Nat.not_lt.mp (fun r => q ((nI_ltI (show 0 < 2 ^ 31 by decide) ha).mpr r))))
theorem w_if_leN {M : Mt} {pc : Nat} {L st : List Value} {S : St} {Z : Option Value → St → Prop} {a : Nat} {off : Int} (tgt : Nat) (hd : decode M.2.1 pc = .ok (.ifCond .le off, 3)) (ht : (pc : Int) + off = (tgt : Int)) (ha : a < 2 ^ 31) (ht1 : a ≤ 0 → Wp M tgt L st S Z) (hf1 : 0 < a → Wp M (pc + 3) L st S Z) : Wp M pc L (.int (nI a) :: st) S Z := by
  exact w_if_le tgt hd ht (fun q => ht1 ((nI_leI ha (show 0 < 2 ^ 31 by decide)).mp q)) (fun q => hf1 (Nat.not_le.mp (fun r => q ((nI_leI ha (show 0 < 2 ^ 31 by decide)).mpr r))))
theorem w_getR {M : Mt} {pc : Nat} {L st : List Value} {S : St} {Z : Option Value → St → Prop} {idx ci k a d : Nat} (hd : decode M.2.1 pc = .ok (.getfield idx, 3)) (hf : FL M.1.cls idx ci k) (ha : a < 204) (hk : kd a = 4 + ci) (hv : fref a k = some d) (h : Wp M (pc + 3) L (.ref d :: st) S Z) : Wp M pc L (.ref a :: st) S Z := w_get hd hf ha hk (by rw [hv]) h
theorem w_getI {M : Mt} {pc : Nat} {L st : List Value} {S : St} {Z : Option Value → St → Prop} {idx ci k a : Nat} (hd : decode M.2.1 pc = .ok (.getfield idx, 3)) (hf : FL M.1.cls idx ci k) (ha : a < 204) (hk : kd a = 4 + ci) (hv : fref a k = none) (h : Wp M (pc + 3) L (.int (S.1 a k) :: st) S Z) : Wp M pc L (.ref a :: st) S Z := w_get hd hf ha hk (by rw [hv]) h
theorem w_putI {M : Mt} {pc : Nat} {L st : List Value} {S : St} {Z : Option Value → St → Prop} {idx ci k a : Nat} {v : Int32} (hd : decode M.2.1 pc = .ok (.putfield idx, 3)) (hf : FL M.1.cls idx ci k) (hw : FW ci k .int) (ha : a < 204) (hk : kd a = 4 + ci) (hr : fref a k = none) (h : Wp M (pc + 3) L st (up2 S.1 a k v, S.2) Z) : Wp M pc L (.int v :: .ref a :: st) S Z := w_put hd hf hw ha hk hr (vp_nar_int v) rfl h
theorem w_putZ {M : Mt} {pc : Nat} {L st : List Value} {S : St} {Z : Option Value → St → Prop} {idx ci k a : Nat} {v : Int32} (hd : decode M.2.1 pc = .ok (.putfield idx, 3)) (hf : FL M.1.cls idx ci k) (hw : FW ci k .boolean) (ha : a < 204) (hk : kd a = 4 + ci) (hr : fref a k = none) (hv : v = 0 ∨ v = 1) (h : Wp M (pc + 3) L st (up2 S.1 a k v, S.2) Z) : Wp M pc L (.int v :: .ref a :: st) S Z := w_put hd hf hw ha hk hr (by rcases hv with rfl | rfl <;> decide +kernel) (by rcases hv with rfl | rfl <;> decide +kernel) h
/-- array accesses at a numbered place -/
theorem w_ialdN {M : Mt} {pc : Nat} {L st : List Value} {S : St} {Z : Option Value → St → Prop} {a n : Nat} (hd : decode M.2.1 pc = .ok (.iaload, 1)) (ha : a < 204) (hk : kd a = 0) (hn : n < ln a) (h : Wp M (pc + 1) L (.int (S.1 a n) :: st) S Z) : Wp M pc L (.int (nI n) :: .ref a :: st) S Z := w_iald hd rfl ha hk hn h
theorem w_baldN {M : Mt} {pc : Nat} {L st : List Value} {S : St} {Z : Option Value → St → Prop} {a n : Nat} (hd : decode M.2.1 pc = .ok (.baload, 1)) (ha : a < 204) (hk : kd a = 1) (hn : n < ln a) (h : Wp M (pc + 1) L (.int (S.1 a n) :: st) S Z) : Wp M pc L (.int (nI n) :: .ref a :: st) S Z := w_bald hd rfl ha hk hn h
theorem w_aaldN {M : Mt} {pc : Nat} {L st : List Value} {S : St} {Z : Option Value → St → Prop} {a n : Nat} (hd : decode M.2.1 pc = .ok (.aaload, 1)) (ha : a < 204) (hk : kd a = 2) (hn : n < ln a) (h : Wp M (pc + 1) L (.ref (gbase a + n) :: st) S Z) : Wp M pc L (.int (nI n) :: .ref a :: st) S Z := w_aald hd rfl ha hk hn h
theorem w_ealdN {M : Mt} {pc : Nat} {L st : List Value} {S : St} {Z : Option Value → St → Prop} {n : Nat} (hd : decode M.2.1 pc = .ok (.aaload, 1)) (hn : n < 20) (h : Wp M (pc + 1) L (.ref (S.2 n) :: st) S Z) : Wp M pc L (.int (nI n) :: .ref 19 :: st) S Z := w_eald hd rfl (by decide) (by decide) hn h
theorem w_iastN {M : Mt} {pc : Nat} {L st : List Value} {S : St} {Z : Option Value → St → Prop} {a n : Nat} {v : Int32} (hd : decode M.2.1 pc = .ok (.iastore, 1)) (ha : a < 204) (hk : kd a = 0) (hn : n < ln a) (h : Wp M (pc + 1) L st (up2 S.1 a n v, S.2) Z) : Wp M pc L (.int v :: .int (nI n) :: .ref a :: st) S Z := w_iast hd rfl ha hk hn h
theorem w_bastN {M : Mt} {pc : Nat} {L st : List Value} {S : St} {Z : Option Value → St → Prop} {a n : Nat} {v : Int32} (hd : decode M.2.1 pc = .ok (.bastore, 1)) (ha : a < 204) (hk : kd a = 1) (hn : n < ln a) (hv : v = 0 ∨ v = 1) (h : Wp M (pc + 1) L st (up2 S.1 a n v, S.2) Z) : Wp M pc L (.int v :: .int (nI n) :: .ref a :: st) S Z := w_bast hd rfl ha hk hn hv h
theorem w_eastN {M : Mt} {pc : Nat} {L st : List Value} {S : St} {Z : Option Value → St → Prop} {n b : Nat} (hd : decode M.2.1 pc = .ok (.aastore, 1)) (hn : n < 20) (hb1 : 124 ≤ b) (hb2 : b < 144) (h : Wp M (pc + 1) L st (S.1, upT S.2 n b) Z) : Wp M pc L (.ref b :: .int (nI n) :: .ref 19 :: st) S Z := w_east hd rfl hn hb1 hb2 h
theorem all_cat {r : List Value} (h : r.all (fun v => decide (v.category = 1)) = true) : ∀ v ∈ r, v.category = 1 := fun v hv => by
  have := List.all_eq_true.mp h v hv
  simpa using this
theorem w_callS1 {M N : Mt} {pc : Nat} {L rest : List Value} {S : St} {Z : Option Value → St → Prop} {idx : Nat} {a1 : Value} (hd : decode M.2.1 pc = .ok (.invokestatic idx, 3)) (hl : LK M.1.cls idx N.1) (hf : MF N) (hm : MS N) (hp : NP N 1) (hR : N.2.2.2.2.1 + 1 ≤ M.2.2.2.2.1 ∧ 8 + (N.2.2.1 + 11) + N.2.2.2.2.2 ≤ M.2.2.2.2.2) (hc : rest.all (fun v => decide (v.category = 1)) = true) (hrl : rest.length ≤ 8) (h : Ev N [a1] S (fun r S' => Wp M (pc + 3) L (r.toList ++ rest) S' Z)) : Wp M pc L (a1 :: rest) S Z := w_callS [a1] rest hd hl hf hm hp hR rfl rfl (all_cat hc) hrl h
theorem w_callS2 {M N : Mt} {pc : Nat} {L rest : List Value} {S : St} {Z : Option Value → St → Prop} {idx : Nat} {a1 a2 : Value} (hd : decode M.2.1 pc = .ok (.invokestatic idx, 3)) (hl : LK M.1.cls idx N.1) (hf : MF N) (hm : MS N) (hp : NP N 2) (hR : N.2.2.2.2.1 + 1 ≤ M.2.2.2.2.1 ∧ 8 + (N.2.2.1 + 11) + N.2.2.2.2.2 ≤ M.2.2.2.2.2) (hc : rest.all (fun v => decide (v.category = 1)) = true) (hrl : rest.length ≤ 8) (h : Ev N [a1, a2] S (fun r S' => Wp M (pc + 3) L (r.toList ++ rest) S' Z)) : Wp M pc L (a2 :: a1 :: rest) S Z := w_callS [a1, a2] rest hd hl hf hm hp hR rfl rfl (all_cat hc) hrl h
theorem w_callS3 {M N : Mt} {pc : Nat} {L rest : List Value} {S : St} {Z : Option Value → St → Prop} {idx : Nat} {a1 a2 a3 : Value} (hd : decode M.2.1 pc = .ok (.invokestatic idx, 3)) (hl : LK M.1.cls idx N.1) (hf : MF N) (hm : MS N) (hp : NP N 3) (hR : N.2.2.2.2.1 + 1 ≤ M.2.2.2.2.1 ∧ 8 + (N.2.2.1 + 11) + N.2.2.2.2.2 ≤ M.2.2.2.2.2) (hc : rest.all (fun v => decide (v.category = 1)) = true) (hrl : rest.length ≤ 8) (h : Ev N [a1, a2, a3] S (fun r S' => Wp M (pc + 3) L (r.toList ++ rest) S' Z)) : Wp M pc L (a3 :: a2 :: a1 :: rest) S Z := w_callS [a1, a2, a3] rest hd hl hf hm hp hR rfl rfl (all_cat hc) hrl h
theorem w_callS4 {M N : Mt} {pc : Nat} {L rest : List Value} {S : St} {Z : Option Value → St → Prop} {idx : Nat} {a1 a2 a3 a4 : Value} (hd : decode M.2.1 pc = .ok (.invokestatic idx, 3)) (hl : LK M.1.cls idx N.1) (hf : MF N) (hm : MS N) (hp : NP N 4) (hR : N.2.2.2.2.1 + 1 ≤ M.2.2.2.2.1 ∧ 8 + (N.2.2.1 + 11) + N.2.2.2.2.2 ≤ M.2.2.2.2.2) (hc : rest.all (fun v => decide (v.category = 1)) = true) (hrl : rest.length ≤ 8) (h : Ev N [a1, a2, a3, a4] S (fun r S' => Wp M (pc + 3) L (r.toList ++ rest) S' Z)) : Wp M pc L (a4 :: a3 :: a2 :: a1 :: rest) S Z := w_callS [a1, a2, a3, a4] rest hd hl hf hm hp hR rfl rfl (all_cat hc) hrl h
theorem w_callS5 {M N : Mt} {pc : Nat} {L rest : List Value} {S : St} {Z : Option Value → St → Prop} {idx : Nat} {a1 a2 a3 a4 a5 : Value} (hd : decode M.2.1 pc = .ok (.invokestatic idx, 3)) (hl : LK M.1.cls idx N.1) (hf : MF N) (hm : MS N) (hp : NP N 5) (hR : N.2.2.2.2.1 + 1 ≤ M.2.2.2.2.1 ∧ 8 + (N.2.2.1 + 11) + N.2.2.2.2.2 ≤ M.2.2.2.2.2) (hc : rest.all (fun v => decide (v.category = 1)) = true) (hrl : rest.length ≤ 8) (h : Ev N [a1, a2, a3, a4, a5] S (fun r S' => Wp M (pc + 3) L (r.toList ++ rest) S' Z)) : Wp M pc L (a5 :: a4 :: a3 :: a2 :: a1 :: rest) S Z := w_callS [a1, a2, a3, a4, a5] rest hd hl hf hm hp hR rfl rfl (all_cat hc) hrl h
theorem w_callS6 {M N : Mt} {pc : Nat} {L rest : List Value} {S : St} {Z : Option Value → St → Prop} {idx : Nat} {a1 a2 a3 a4 a5 a6 : Value} (hd : decode M.2.1 pc = .ok (.invokestatic idx, 3)) (hl : LK M.1.cls idx N.1) (hf : MF N) (hm : MS N) (hp : NP N 6) (hR : N.2.2.2.2.1 + 1 ≤ M.2.2.2.2.1 ∧ 8 + (N.2.2.1 + 11) + N.2.2.2.2.2 ≤ M.2.2.2.2.2) (hc : rest.all (fun v => decide (v.category = 1)) = true) (hrl : rest.length ≤ 8) (h : Ev N [a1, a2, a3, a4, a5, a6] S (fun r S' => Wp M (pc + 3) L (r.toList ++ rest) S' Z)) : Wp M pc L (a6 :: a5 :: a4 :: a3 :: a2 :: a1 :: rest) S Z := w_callS [a1, a2, a3, a4, a5, a6] rest hd hl hf hm hp hR rfl rfl (all_cat hc) hrl h
theorem w_callV0 {M N : Mt} {pc : Nat} {L rest : List Value} {S : St} {Z : Option Value → St → Prop} {idx b ci nf : Nat} {T : u_T}  (hd : decode M.2.1 pc = .ok (.invokevirtual idx, 3)) (hl : LK M.1.cls idx N.1) (hf : MF N) (hm : MV N) (hp : NP N 0) (hR : N.2.2.2.2.1 + 1 ≤ M.2.2.2.2.1 ∧ 8 + (N.2.2.1 + 11) + N.2.2.2.2.2 ≤ M.2.2.2.2.2) (hb : b < 204) (hk : kd b = 4 + ci) (hcl : zcl[ci]? = some (N.1.cls, T, nf)) (hc : rest.all (fun v => decide (v.category = 1)) = true) (hrl : rest.length ≤ 8) (h : Ev N [.ref b] S (fun r S' => Wp M (pc + 3) L (r.toList ++ rest) S' Z)) : Wp M pc L (.ref b :: rest) S Z := w_callV [] rest hd hl hf hm hp hR rfl rfl (all_cat hc) hrl hb hk hcl h
theorem w_callV1 {M N : Mt} {pc : Nat} {L rest : List Value} {S : St} {Z : Option Value → St → Prop} {idx b ci nf : Nat} {T : u_T} {a1 : Value} (hd : decode M.2.1 pc = .ok (.invokevirtual idx, 3)) (hl : LK M.1.cls idx N.1) (hf : MF N) (hm : MV N) (hp : NP N 1) (hR : N.2.2.2.2.1 + 1 ≤ M.2.2.2.2.1 ∧ 8 + (N.2.2.1 + 11) + N.2.2.2.2.2 ≤ M.2.2.2.2.2) (hb : b < 204) (hk : kd b = 4 + ci) (hcl : zcl[ci]? = some (N.1.cls, T, nf)) (hc : rest.all (fun v => decide (v.category = 1)) = true) (hrl : rest.length ≤ 8) (h : Ev N [.ref b, a1] S (fun r S' => Wp M (pc + 3) L (r.toList ++ rest) S' Z)) : Wp M pc L (a1 :: .ref b :: rest) S Z := w_callV [a1] rest hd hl hf hm hp hR rfl rfl (all_cat hc) hrl hb hk hcl h
theorem w_callV2 {M N : Mt} {pc : Nat} {L rest : List Value} {S : St} {Z : Option Value → St → Prop} {idx b ci nf : Nat} {T : u_T} {a1 a2 : Value} (hd : decode M.2.1 pc = .ok (.invokevirtual idx, 3)) (hl : LK M.1.cls idx N.1) (hf : MF N) (hm : MV N) (hp : NP N 2) (hR : N.2.2.2.2.1 + 1 ≤ M.2.2.2.2.1 ∧ 8 + (N.2.2.1 + 11) + N.2.2.2.2.2 ≤ M.2.2.2.2.2) (hb : b < 204) (hk : kd b = 4 + ci) (hcl : zcl[ci]? = some (N.1.cls, T, nf)) (hc : rest.all (fun v => decide (v.category = 1)) = true) (hrl : rest.length ≤ 8) (h : Ev N [.ref b, a1, a2] S (fun r S' => Wp M (pc + 3) L (r.toList ++ rest) S' Z)) : Wp M pc L (a2 :: a1 :: .ref b :: rest) S Z := w_callV [a1, a2] rest hd hl hf hm hp hR rfl rfl (all_cat hc) hrl hb hk hcl h
theorem w_callV3 {M N : Mt} {pc : Nat} {L rest : List Value} {S : St} {Z : Option Value → St → Prop} {idx b ci nf : Nat} {T : u_T} {a1 a2 a3 : Value} (hd : decode M.2.1 pc = .ok (.invokevirtual idx, 3)) (hl : LK M.1.cls idx N.1) (hf : MF N) (hm : MV N) (hp : NP N 3) (hR : N.2.2.2.2.1 + 1 ≤ M.2.2.2.2.1 ∧ 8 + (N.2.2.1 + 11) + N.2.2.2.2.2 ≤ M.2.2.2.2.2) (hb : b < 204) (hk : kd b = 4 + ci) (hcl : zcl[ci]? = some (N.1.cls, T, nf)) (hc : rest.all (fun v => decide (v.category = 1)) = true) (hrl : rest.length ≤ 8) (h : Ev N [.ref b, a1, a2, a3] S (fun r S' => Wp M (pc + 3) L (r.toList ++ rest) S' Z)) : Wp M pc L (a3 :: a2 :: a1 :: .ref b :: rest) S Z := w_callV [a1, a2, a3] rest hd hl hf hm hp hR rfl rfl (all_cat hc) hrl hb hk hcl h
theorem w_callV4 {M N : Mt} {pc : Nat} {L rest : List Value} {S : St} {Z : Option Value → St → Prop} {idx b ci nf : Nat} {T : u_T} {a1 a2 a3 a4 : Value} (hd : decode M.2.1 pc = .ok (.invokevirtual idx, 3)) (hl : LK M.1.cls idx N.1) (hf : MF N) (hm : MV N) (hp : NP N 4) (hR : N.2.2.2.2.1 + 1 ≤ M.2.2.2.2.1 ∧ 8 + (N.2.2.1 + 11) + N.2.2.2.2.2 ≤ M.2.2.2.2.2) (hb : b < 204) (hk : kd b = 4 + ci) (hcl : zcl[ci]? = some (N.1.cls, T, nf)) (hc : rest.all (fun v => decide (v.category = 1)) = true) (hrl : rest.length ≤ 8) (h : Ev N [.ref b, a1, a2, a3, a4] S (fun r S' => Wp M (pc + 3) L (r.toList ++ rest) S' Z)) : Wp M pc L (a4 :: a3 :: a2 :: a1 :: .ref b :: rest) S Z := w_callV [a1, a2, a3, a4] rest hd hl hf hm hp hR rfl rfl (all_cat hc) hrl hb hk hcl h
theorem w_callV5 {M N : Mt} {pc : Nat} {L rest : List Value} {S : St} {Z : Option Value → St → Prop} {idx b ci nf : Nat} {T : u_T} {a1 a2 a3 a4 a5 : Value} (hd : decode M.2.1 pc = .ok (.invokevirtual idx, 3)) (hl : LK M.1.cls idx N.1) (hf : MF N) (hm : MV N) (hp : NP N 5) (hR : N.2.2.2.2.1 + 1 ≤ M.2.2.2.2.1 ∧ 8 + (N.2.2.1 + 11) + N.2.2.2.2.2 ≤ M.2.2.2.2.2) (hb : b < 204) (hk : kd b = 4 + ci) (hcl : zcl[ci]? = some (N.1.cls, T, nf)) (hc : rest.all (fun v => decide (v.category = 1)) = true) (hrl : rest.length ≤ 8) (h : Ev N [.ref b, a1, a2, a3, a4, a5] S (fun r S' => Wp M (pc + 3) L (r.toList ++ rest) S' Z)) : Wp M pc L (a5 :: a4 :: a3 :: a2 :: a1 :: .ref b :: rest) S Z := w_callV [a1, a2, a3, a4, a5] rest hd hl hf hm hp hR rfl rfl (all_cat hc) hrl hb hk hcl h
theorem Ev.det {N : Mt} {As : List Value} {S S0 : St} {r0 : Option Value} {Z : Option Value → St → Prop} (h : Ev N As S (fun r S' => r = r0 ∧ S' = S0)) (k : Z r0 S0) : Ev N As S Z := h.mono (fun r S' q => by obtain ⟨rfl, rfl⟩ := q; exact k)
end
