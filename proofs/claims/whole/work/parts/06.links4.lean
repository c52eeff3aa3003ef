theorem LK_c_82 : LK "QuantisedLists$Clustering" 82 ⟨"QuantisedLists$Clustering", "greatestShare", "()I"⟩ := Or.inl (tb 338 (by decide +kernel) rfl)
theorem LK_c_86 : LK "QuantisedLists$Clustering" 86 ⟨"QuantisedLists$Clustering", "splitInto", "(II)V"⟩ := Or.inl (tb 342 (by decide +kernel) rfl)
theorem LK_q_245 : LK "QuantisedLists" 245 ⟨"QuantisedLists$Clustering", "giveCentres", "([[II)V"⟩ := Or.inl (tb 346 (by decide +kernel) rfl)
theorem LK_q_97 : LK "QuantisedLists" 97 ⟨"QuantisedLists", "keepWhatIsLeft", "()V"⟩ := Or.inl (tb 350 (by decide +kernel) rfl)
theorem LK_q_249 : LK "QuantisedLists" 249 ⟨"QuantisedLists$Quantiser", "nearestList", "([I)I"⟩ := Or.inl (tb 354 (by decide +kernel) rfl)
theorem LK_z_45 : LK "QuantisedLists$Quantiser" 45 ⟨"QuantisedLists", "nearestRow", "([[III[III)I"⟩ := Or.inr ⟨"QuantisedLists", tbn 358 (by decide +kernel) rfl⟩
theorem LK_q_253 : LK "QuantisedLists" 253 ⟨"QuantisedLists", "subtract", "([I[I[I)V"⟩ := Or.inl (tb 359 (by decide +kernel) rfl)
theorem LK_q_100 : LK "QuantisedLists" 100 ⟨"QuantisedLists", "learnWords", "(I)V"⟩ := Or.inl (tb 362 (by decide +kernel) rfl)
theorem LK_q_121 : LK "QuantisedLists" 121 ⟨"QuantisedLists", "partWidthOf", "(I)I"⟩ := Or.inl (tb 366 (by decide +kernel) rfl)
theorem LK_q_257 : LK "QuantisedLists" 257 ⟨"QuantisedLists", "partsOf", "(I)I"⟩ := Or.inl (tb 369 (by decide +kernel) rfl)
theorem LK_q_128 : LK "QuantisedLists" 128 ⟨"QuantisedLists", "wordRow", "(II)I"⟩ := Or.inl (tb 372 (by decide +kernel) rfl)
theorem LK_q_263 : LK "QuantisedLists" 263 ⟨"QuantisedLists$Clustering", "least", "(I)I"⟩ := Or.inl (tb 375 (by decide +kernel) rfl)
theorem LK_c_54 : LK "QuantisedLists$Clustering" 54 ⟨"java/lang/Math", "min", "(II)I"⟩ := Or.inl (tb 379 (by decide +kernel) rfl)
theorem LK_q_266 : LK "QuantisedLists" 266 ⟨"QuantisedLists$Clustering", "greatest", "(I)I"⟩ := Or.inl (tb 382 (by decide +kernel) rfl)
theorem LK_c_60 : LK "QuantisedLists$Clustering" 60 ⟨"java/lang/Math", "max", "(II)I"⟩ := Or.inl (tb 386 (by decide +kernel) rfl)
theorem LK_q_269 : LK "QuantisedLists" 269 ⟨"QuantisedLists$Quantiser", "spreadWords", "(III)V"⟩ := Or.inl (tb 389 (by decide +kernel) rfl)
theorem LK_z_52 : LK "QuantisedLists$Quantiser" 52 ⟨"QuantisedLists", "wordRow", "(II)I"⟩ := Or.inr ⟨"QuantisedLists", tbn 393 (by decide +kernel) rfl⟩
theorem LK_q_103 : LK "QuantisedLists" 103 ⟨"QuantisedLists", "trainingError", "()I"⟩ := Or.inl (tb 394 (by decide +kernel) rfl)
theorem LK_q_272 : LK "QuantisedLists" 272 ⟨"QuantisedLists$Quantiser", "nearestWord", "(I[I)I"⟩ := Or.inl (tb 398 (by decide +kernel) rfl)
theorem LK_z_49 : LK "QuantisedLists$Quantiser" 49 ⟨"QuantisedLists", "partWidthOf", "(I)I"⟩ := Or.inr ⟨"QuantisedLists", tbn 402 (by decide +kernel) rfl⟩
theorem LK_q_276 : LK "QuantisedLists" 276 ⟨"QuantisedLists$Quantiser", "wordDistance", "(II[I)I"⟩ := Or.inl (tb 403 (by decide +kernel) rfl)
theorem LK_z_56 : LK "QuantisedLists$Quantiser" 56 ⟨"QuantisedLists", "distance", "([I[III)I"⟩ := Or.inr ⟨"QuantisedLists", tbn 407 (by decide +kernel) rfl⟩
theorem LK_l_27 : LK "QuantisedListsLaw" 27 ⟨"QuantisedLists", "centre", "(II)I"⟩ := Or.inl (tb 408 (by decide +kernel) rfl)
theorem LK_q_107 : LK "QuantisedLists" 107 ⟨"QuantisedLists$Quantiser", "hasList", "(I)Z"⟩ := Or.inl (tb 412 (by decide +kernel) rfl)
theorem LK_z_37 : LK "QuantisedLists$Quantiser" 37 ⟨"QuantisedLists", "isWithin", "(III)Z"⟩ := Or.inr ⟨"QuantisedLists", tbn 416 (by decide +kernel) rfl⟩
theorem LK_l_32 : LK "QuantisedListsLaw" 32 ⟨"QuantisedLists", "word", "(III)I"⟩ := Or.inl (tb 417 (by decide +kernel) rfl)
theorem LK_q_114 : LK "QuantisedLists" 114 ⟨"QuantisedLists$Quantiser", "hasWord", "(II)Z"⟩ := Or.inl (tb 421 (by decide +kernel) rfl)
theorem LK_z_41 : LK "QuantisedLists$Quantiser" 41 ⟨"QuantisedLists", "partsOf", "(I)I"⟩ := Or.inr ⟨"QuantisedLists", tbn 425 (by decide +kernel) rfl⟩
theorem LK_l_37 : LK "QuantisedListsLaw" 37 ⟨"QuantisedLists", "add", "(IIIII)I"⟩ := Or.inl (tb 426 (by decide +kernel) rfl)
theorem LK_q_132 : LK "QuantisedLists" 132 ⟨"QuantisedLists$EntryTable", "placeOf", "(I)I"⟩ := Or.inl (tb 430 (by decide +kernel) rfl)
theorem LK_q_135 : LK "QuantisedLists" 135 ⟨"QuantisedLists", "putEntry", "(IIIII)I"⟩ := Or.inl (tb 434 (by decide +kernel) rfl)
theorem LK_q_280 : LK "QuantisedLists" 280 ⟨"QuantisedLists$EntryTable", "makeRoom", "(I)I"⟩ := Or.inl (tb 438 (by decide +kernel) rfl)
theorem LK_q_287 : LK "QuantisedLists" 287 ⟨"QuantisedLists$Quantiser", "encode", "(LQuantisedLists$Entry;)V"⟩ := Or.inl (tb 442 (by decide +kernel) rfl)
theorem LK_z_65 : LK "QuantisedLists$Quantiser" 65 ⟨"QuantisedLists$Quantiser", "nearestList", "([I)I"⟩ := Or.inl (tb 446 (by decide +kernel) rfl)
theorem LK_z_72 : LK "QuantisedLists$Quantiser" 72 ⟨"QuantisedLists", "subtract", "([I[I[I)V"⟩ := Or.inr ⟨"QuantisedLists", tbn 447 (by decide +kernel) rfl⟩
theorem LK_z_79 : LK "QuantisedLists$Quantiser" 79 ⟨"QuantisedLists$Quantiser", "nearestWord", "(I[I)I"⟩ := Or.inl (tb 448 (by decide +kernel) rfl)
theorem LK_l_42 : LK "QuantisedListsLaw" 42 ⟨"QuantisedLists", "remove", "(I)Z"⟩ := Or.inl (tb 449 (by decide +kernel) rfl)
theorem LK_q_139 : LK "QuantisedLists" 139 ⟨"QuantisedLists$EntryTable", "drop", "(I)V"⟩ := Or.inl (tb 453 (by decide +kernel) rfl)
theorem LK_l_47 : LK "QuantisedListsLaw" 47 ⟨"QuantisedLists", "listOf", "(I)I"⟩ := Or.inl (tb 457 (by decide +kernel) rfl)
theorem LK_l_52 : LK "QuantisedListsLaw" 52 ⟨"QuantisedLists", "codeOf", "(I)I"⟩ := Or.inl (tb 461 (by decide +kernel) rfl)
theorem LK_q_151 : LK "QuantisedLists" 151 ⟨"QuantisedLists$Quantiser", "codeAsNumber", "(LQuantisedLists$Entry;)I"⟩ := Or.inl (tb 465 (by decide +kernel) rfl)
theorem LK_l_56 : LK "QuantisedListsLaw" 56 ⟨"QuantisedLists", "entries", "(I)I"⟩ := Or.inl (tb 469 (by decide +kernel) rfl)
theorem LK_q_155 : LK "QuantisedLists" 155 ⟨"QuantisedLists$EntryTable", "countInList", "(I)I"⟩ := Or.inl (tb 473 (by decide +kernel) rfl)
theorem LK_l_60 : LK "QuantisedListsLaw" 60 ⟨"QuantisedLists", "effort", "(II)Z"⟩ := Or.inl (tb 477 (by decide +kernel) rfl)
theorem LK_l_65 : LK "QuantisedListsLaw" 65 ⟨"QuantisedLists", "search", "(IIIII)I"⟩ := Or.inl (tb 481 (by decide +kernel) rfl)
theorem LK_q_175 : LK "QuantisedLists" 175 ⟨"QuantisedLists$Finder", "find", "(LQuantisedLists$Quantiser;LQuantisedLists$EntryTable;I)V"⟩ := Or.inl (tb 485 (by decide +kernel) rfl)
theorem LK_f_41 : LK "QuantisedLists$Finder" 41 ⟨"QuantisedLists$Finder", "lookThrough", "(LQuantisedLists$Quantiser;LQuantisedLists$EntryTable;)V"⟩ := Or.inl (tb 489 (by decide +kernel) rfl)
theorem LK_f_80 : LK "QuantisedLists$Finder" 80 ⟨"QuantisedLists$Quantiser", "listsBefore", "(I[I)I"⟩ := Or.inl (tb 493 (by decide +kernel) rfl)
theorem LK_f_86 : LK "QuantisedLists$Finder" 86 ⟨"QuantisedLists$Quantiser", "codeDistance", "([ILQuantisedLists$Entry;)I"⟩ := Or.inl (tb 497 (by decide +kernel) rfl)
theorem LK_z_83 : LK "QuantisedLists$Quantiser" 83 ⟨"QuantisedLists$Quantiser", "wordDistance", "(II[I)I"⟩ := Or.inl (tb 501 (by decide +kernel) rfl)
theorem LK_f_48 : LK "QuantisedLists$Finder" 48 ⟨"QuantisedLists$Finder", "sort", "(I)V"⟩ := Or.inl (tb 502 (by decide +kernel) rfl)
theorem LK_f_97 : LK "QuantisedLists$Finder" 97 ⟨"QuantisedLists$Finder", "isBefore", "(III)Z"⟩ := Or.inl (tb 506 (by decide +kernel) rfl)
theorem LK_f_52 : LK "QuantisedLists$Finder" 52 ⟨"java/lang/Math", "min", "(II)I"⟩ := Or.inl (tb 510 (by decide +kernel) rfl)
theorem LK_f_58 : LK "QuantisedLists$Finder" 58 ⟨"QuantisedLists$Finder", "measure", "(LQuantisedLists$EntryTable;I)V"⟩ := Or.inl (tb 511 (by decide +kernel) rfl)
theorem LK_f_93 : LK "QuantisedLists$Finder" 93 ⟨"QuantisedLists", "distance", "([I[III)I"⟩ := Or.inr ⟨"QuantisedLists", tbn 515 (by decide +kernel) rfl⟩
theorem LK_f_62 : LK "QuantisedLists$Finder" 62 ⟨"QuantisedLists$Finder", "keepIds", "(LQuantisedLists$EntryTable;)V"⟩ := Or.inl (tb 516 (by decide +kernel) rfl)
theorem LK_l_69 : LK "QuantisedListsLaw" 69 ⟨"QuantisedLists", "hit", "(I)I"⟩ := Or.inl (tb 520 (by decide +kernel) rfl)
theorem LK_q_182 : LK "QuantisedLists" 182 ⟨"QuantisedLists$Finder", "hasResult", "(I)Z"⟩ := Or.inl (tb 524 (by decide +kernel) rfl)
theorem LK_f_37 : LK "QuantisedLists$Finder" 37 ⟨"QuantisedLists", "isWithin", "(III)Z"⟩ := Or.inr ⟨"QuantisedLists", tbn 528 (by decide +kernel) rfl⟩
theorem LK_l_73 : LK "QuantisedListsLaw" 73 ⟨"QuantisedLists", "far", "(I)I"⟩ := Or.inl (tb 529 (by decide +kernel) rfl)
theorem LK_l_77 : LK "QuantisedListsLaw" 77 ⟨"QuantisedLists", "scanned", "()I"⟩ := Or.inl (tb 533 (by decide +kernel) rfl)
theorem LK_l_82 : LK "QuantisedListsLaw" 82 ⟨"QuantisedLists", "save", "()I"⟩ := Or.inl (tb 537 (by decide +kernel) rfl)
theorem LK_q_197 : LK "QuantisedLists" 197 ⟨"QuantisedLists", "writeHead", "()V"⟩ := Or.inl (tb 541 (by decide +kernel) rfl)
theorem LK_q_212 : LK "QuantisedLists" 212 ⟨"QuantisedLists$ByteFile", "put", "(I)V"⟩ := Or.inl (tb 545 (by decide +kernel) rfl)
theorem LK_q_200 : LK "QuantisedLists" 200 ⟨"QuantisedLists", "writeCentres", "()V"⟩ := Or.inl (tb 549 (by decide +kernel) rfl)
theorem LK_q_294 : LK "QuantisedLists" 294 ⟨"QuantisedLists$ByteFile", "putPair", "(I)V"⟩ := Or.inl (tb 553 (by decide +kernel) rfl)
theorem LK_y_19 : LK "QuantisedLists$ByteFile" 19 ⟨"QuantisedLists$ByteFile", "put", "(I)V"⟩ := Or.inl (tb 557 (by decide +kernel) rfl)
theorem LK_q_203 : LK "QuantisedLists" 203 ⟨"QuantisedLists", "writeWords", "()V"⟩ := Or.inl (tb 558 (by decide +kernel) rfl)
theorem LK_q_206 : LK "QuantisedLists" 206 ⟨"QuantisedLists", "writeEntries", "()V"⟩ := Or.inl (tb 562 (by decide +kernel) rfl)
theorem LK_q_209 : LK "QuantisedLists" 209 ⟨"QuantisedLists$ByteFile", "checkOf", "(I)I"⟩ := Or.inl (tb 566 (by decide +kernel) rfl)
theorem LK_l_86 : LK "QuantisedListsLaw" 86 ⟨"QuantisedLists", "alter", "(II)Z"⟩ := Or.inl (tb 570 (by decide +kernel) rfl)
theorem LK_l_90 : LK "QuantisedListsLaw" 90 ⟨"QuantisedLists", "cut", "(I)Z"⟩ := Or.inl (tb 574 (by decide +kernel) rfl)
theorem LK_l_94 : LK "QuantisedListsLaw" 94 ⟨"QuantisedLists", "byteAt", "(I)I"⟩ := Or.inl (tb 578 (by decide +kernel) rfl)
theorem LK_l_98 : LK "QuantisedListsLaw" 98 ⟨"QuantisedLists", "load", "()I"⟩ := Or.inl (tb 582 (by decide +kernel) rfl)
theorem LK_q_218 : LK "QuantisedLists" 218 ⟨"QuantisedLists$ByteFile", "fault", "()I"⟩ := Or.inl (tb 586 (by decide +kernel) rfl)
theorem LK_y_30 : LK "QuantisedLists$ByteFile" 30 ⟨"QuantisedLists$ByteFile", "hasSizes", "()Z"⟩ := Or.inl (tb 590 (by decide +kernel) rfl)
theorem LK_y_52 : LK "QuantisedLists$ByteFile" 52 ⟨"QuantisedLists", "isWithin", "(III)Z"⟩ := Or.inr ⟨"QuantisedLists", tbn 594 (by decide +kernel) rfl⟩
theorem LK_y_34 : LK "QuantisedLists$ByteFile" 34 ⟨"QuantisedLists$ByteFile", "step", "(I)I"⟩ := Or.inl (tb 595 (by decide +kernel) rfl)
theorem LK_y_37 : LK "QuantisedLists$ByteFile" 37 ⟨"QuantisedLists$Turn", "allows", "(IIII)Z"⟩ := Or.inl (tb 599 (by decide +kernel) rfl)
theorem LK_y_27 : LK "QuantisedLists$ByteFile" 27 ⟨"QuantisedLists$ByteFile", "entryStart", "(I)I"⟩ := Or.inl (tb 600 (by decide +kernel) rfl)
theorem LK_y_56 : LK "QuantisedLists$ByteFile" 56 ⟨"QuantisedLists$ByteFile", "wideCount", "()I"⟩ := Or.inl (tb 604 (by decide +kernel) rfl)
theorem LK_y_43 : LK "QuantisedLists$ByteFile" 43 ⟨"QuantisedLists$ByteFile", "checkOf", "(I)I"⟩ := Or.inl (tb 608 (by decide +kernel) rfl)
theorem LK_y_46 : LK "QuantisedLists$ByteFile" 46 ⟨"QuantisedLists$ByteFile", "hasWides", "()Z"⟩ := Or.inl (tb 609 (by decide +kernel) rfl)
theorem LK_y_60 : LK "QuantisedLists$ByteFile" 60 ⟨"QuantisedLists$ByteFile", "wide", "(I)I"⟩ := Or.inl (tb 613 (by decide +kernel) rfl)
theorem LK_y_23 : LK "QuantisedLists$ByteFile" 23 ⟨"QuantisedLists$ByteFile", "pairAt", "(I)I"⟩ := Or.inl (tb 617 (by decide +kernel) rfl)
theorem LK_y_49 : LK "QuantisedLists$ByteFile" 49 ⟨"QuantisedLists$ByteFile", "hasEntries", "()Z"⟩ := Or.inl (tb 621 (by decide +kernel) rfl)
theorem LK_y_63 : LK "QuantisedLists$ByteFile" 63 ⟨"QuantisedLists$ByteFile", "entryId", "(I)I"⟩ := Or.inl (tb 625 (by decide +kernel) rfl)
theorem LK_y_66 : LK "QuantisedLists$ByteFile" 66 ⟨"QuantisedLists$ByteFile", "hasPoint", "(I)Z"⟩ := Or.inl (tb 629 (by decide +kernel) rfl)
theorem LK_y_70 : LK "QuantisedLists$ByteFile" 70 ⟨"QuantisedLists$ByteFile", "entryCoordinate", "(II)I"⟩ := Or.inl (tb 633 (by decide +kernel) rfl)
theorem LK_q_221 : LK "QuantisedLists" 221 ⟨"QuantisedLists", "readHead", "()V"⟩ := Or.inl (tb 637 (by decide +kernel) rfl)
theorem LK_q_300 : LK "QuantisedLists" 300 ⟨"QuantisedLists$ByteFile", "step", "(I)I"⟩ := Or.inl (tb 641 (by decide +kernel) rfl)
theorem LK_q_224 : LK "QuantisedLists" 224 ⟨"QuantisedLists", "readCentres", "()V"⟩ := Or.inl (tb 642 (by decide +kernel) rfl)
theorem LK_q_303 : LK "QuantisedLists" 303 ⟨"QuantisedLists$ByteFile", "wide", "(I)I"⟩ := Or.inl (tb 646 (by decide +kernel) rfl)
theorem LK_q_227 : LK "QuantisedLists" 227 ⟨"QuantisedLists", "readWords", "()V"⟩ := Or.inl (tb 647 (by decide +kernel) rfl)
theorem LK_q_230 : LK "QuantisedLists" 230 ⟨"QuantisedLists", "readEntries", "()V"⟩ := Or.inl (tb 651 (by decide +kernel) rfl)
theorem LK_q_306 : LK "QuantisedLists" 306 ⟨"QuantisedLists$ByteFile", "entryId", "(I)I"⟩ := Or.inl (tb 655 (by decide +kernel) rfl)
theorem LK_q_309 : LK "QuantisedLists" 309 ⟨"QuantisedLists$ByteFile", "entryCoordinate", "(II)I"⟩ := Or.inl (tb 656 (by decide +kernel) rfl)
theorem LK_l_17 : LK "QuantisedListsLaw" 17 ⟨"QuantisedListsModel", "turn", "(IIII)Z"⟩ := Or.inl (tb 764 (by decide +kernel) rfl)
theorem LK_m_96 : LK "QuantisedListsModel" 96 ⟨"QuantisedListsModel", "isTurn", "(IIII)Z"⟩ := Or.inl (tb 768 (by decide +kernel) rfl)
theorem LK_m_81 : LK "QuantisedListsModel" 81 ⟨"QuantisedListsModel", "bit", "(I)I"⟩ := Or.inl (tb 771 (by decide +kernel) rfl)
theorem LK_l_21 : LK "QuantisedListsLaw" 21 ⟨"QuantisedListsModel", "sample", "(IIII)Z"⟩ := Or.inl (tb 774 (by decide +kernel) rfl)
theorem LK_m_100 : LK "QuantisedListsModel" 100 ⟨"QuantisedListsModel", "give", "(IIII)Z"⟩ := Or.inl (tb 778 (by decide +kernel) rfl)
theorem LK_m_85 : LK "QuantisedListsModel" 85 ⟨"QuantisedListsModel", "within", "(III)Z"⟩ := Or.inl (tb 782 (by decide +kernel) rfl)
theorem LK_l_26 : LK "QuantisedListsLaw" 26 ⟨"QuantisedListsModel", "train", "(IIII)I"⟩ := Or.inl (tb 785 (by decide +kernel) rfl)
theorem LK_m_89 : LK "QuantisedListsModel" 89 ⟨"QuantisedListsModel", "turnIt", "()V"⟩ := Or.inl (tb 789 (by decide +kernel) rfl)
theorem LK_m_140 : LK "QuantisedListsModel" 140 ⟨"QuantisedListsModel", "cluster", "(III)V"⟩ := Or.inl (tb 793 (by decide +kernel) rfl)
theorem LK_m_110 : LK "QuantisedListsModel" 110 ⟨"QuantisedListsModel", "nearest", "(III)I"⟩ := Or.inl (tb 797 (by decide +kernel) rfl)
theorem LK_m_106 : LK "QuantisedListsModel" 106 ⟨"QuantisedListsModel", "gap", "(III)I"⟩ := Or.inl (tb 801 (by decide +kernel) rfl)
theorem LK_m_113 : LK "QuantisedListsModel" 113 ⟨"QuantisedListsModel", "mean", "(II)V"⟩ := Or.inl (tb 805 (by decide +kernel) rfl)
theorem LK_m_120 : LK "QuantisedListsModel" 120 ⟨"QuantisedListsModel", "floor", "(II)I"⟩ := Or.inl (tb 809 (by decide +kernel) rfl)
theorem LK_m_117 : LK "QuantisedListsModel" 117 ⟨"QuantisedListsModel", "fill", "(II)V"⟩ := Or.inl (tb 812 (by decide +kernel) rfl)
theorem LK_m_124 : LK "QuantisedListsModel" 124 ⟨"QuantisedListsModel", "hasMember", "(I)Z"⟩ := Or.inl (tb 816 (by decide +kernel) rfl)
theorem LK_m_144 : LK "QuantisedListsModel" 144 ⟨"QuantisedListsModel", "parts", "()I"⟩ := Or.inl (tb 820 (by decide +kernel) rfl)
theorem LK_m_148 : LK "QuantisedListsModel" 148 ⟨"QuantisedListsModel", "learn", "(II)V"⟩ := Or.inl (tb 824 (by decide +kernel) rfl)
theorem LK_m_151 : LK "QuantisedListsModel" 151 ⟨"QuantisedListsModel", "spread", "(I)V"⟩ := Or.inl (tb 828 (by decide +kernel) rfl)
theorem LK_m_155 : LK "QuantisedListsModel" 155 ⟨"QuantisedListsModel", "loss", "()I"⟩ := Or.inl (tb 832 (by decide +kernel) rfl)
theorem LK_m_158 : LK "QuantisedListsModel" 158 ⟨"QuantisedListsModel", "nearestWord", "(I)I"⟩ := Or.inl (tb 836 (by decide +kernel) rfl)
theorem LK_m_161 : LK "QuantisedListsModel" 161 ⟨"QuantisedListsModel", "wordGap", "(II)I"⟩ := Or.inl (tb 840 (by decide +kernel) rfl)
theorem LK_m_164 : LK "QuantisedListsModel" 164 ⟨"QuantisedListsModel", "size", "()I"⟩ := Or.inl (tb 844 (by decide +kernel) rfl)
theorem LK_l_31 : LK "QuantisedListsLaw" 31 ⟨"QuantisedListsModel", "centre", "(II)I"⟩ := Or.inl (tb 848 (by decide +kernel) rfl)
theorem LK_l_36 : LK "QuantisedListsLaw" 36 ⟨"QuantisedListsModel", "word", "(III)I"⟩ := Or.inl (tb 852 (by decide +kernel) rfl)
theorem LK_l_41 : LK "QuantisedListsLaw" 41 ⟨"QuantisedListsModel", "add", "(IIIII)I"⟩ := Or.inl (tb 856 (by decide +kernel) rfl)
theorem LK_m_170 : LK "QuantisedListsModel" 170 ⟨"QuantisedListsModel", "listNow", "()I"⟩ := Or.inl (tb 860 (by decide +kernel) rfl)
theorem LK_m_167 : LK "QuantisedListsModel" 167 ⟨"QuantisedListsModel", "away", "(I)I"⟩ := Or.inl (tb 864 (by decide +kernel) rfl)
theorem LK_l_46 : LK "QuantisedListsLaw" 46 ⟨"QuantisedListsModel", "remove", "(I)Z"⟩ := Or.inl (tb 868 (by decide +kernel) rfl)
theorem LK_m_173 : LK "QuantisedListsModel" 173 ⟨"QuantisedListsModel", "there", "(I)Z"⟩ := Or.inl (tb 872 (by decide +kernel) rfl)
theorem LK_l_51 : LK "QuantisedListsLaw" 51 ⟨"QuantisedListsModel", "listOf", "(I)I"⟩ := Or.inl (tb 876 (by decide +kernel) rfl)
theorem LK_m_176 : LK "QuantisedListsModel" 176 ⟨"QuantisedListsModel", "turnEntry", "(I)V"⟩ := Or.inl (tb 880 (by decide +kernel) rfl)
theorem LK_l_55 : LK "QuantisedListsLaw" 55 ⟨"QuantisedListsModel", "codeOf", "(I)I"⟩ := Or.inl (tb 884 (by decide +kernel) rfl)
theorem LK_m_179 : LK "QuantisedListsModel" 179 ⟨"QuantisedListsModel", "leave", "(I)V"⟩ := Or.inl (tb 888 (by decide +kernel) rfl)
theorem LK_l_59 : LK "QuantisedListsLaw" 59 ⟨"QuantisedListsModel", "entries", "(I)I"⟩ := Or.inl (tb 892 (by decide +kernel) rfl)
theorem LK_l_64 : LK "QuantisedListsLaw" 64 ⟨"QuantisedListsModel", "effort", "(II)Z"⟩ := Or.inl (tb 896 (by decide +kernel) rfl)
theorem LK_l_68 : LK "QuantisedListsLaw" 68 ⟨"QuantisedListsModel", "search", "(IIIII)I"⟩ := Or.inl (tb 900 (by decide +kernel) rfl)
theorem LK_m_188 : LK "QuantisedListsModel" 188 ⟨"QuantisedListsModel", "measure", "(I)V"⟩ := Or.inl (tb 904 (by decide +kernel) rfl)
theorem LK_m_200 : LK "QuantisedListsModel" 200 ⟨"QuantisedListsModel", "probed", "(I)Z"⟩ := Or.inl (tb 908 (by decide +kernel) rfl)
theorem LK_m_194 : LK "QuantisedListsModel" 194 ⟨"QuantisedListsModel", "rank", "(I)I"⟩ := Or.inl (tb 912 (by decide +kernel) rfl)
theorem LK_m_197 : LK "QuantisedListsModel" 197 ⟨"QuantisedListsModel", "exactRank", "(I)I"⟩ := Or.inl (tb 916 (by decide +kernel) rfl)
theorem LK_l_72 : LK "QuantisedListsLaw" 72 ⟨"QuantisedListsModel", "hit", "(I)I"⟩ := Or.inl (tb 920 (by decide +kernel) rfl)
theorem LK_l_76 : LK "QuantisedListsLaw" 76 ⟨"QuantisedListsModel", "far", "(I)I"⟩ := Or.inl (tb 924 (by decide +kernel) rfl)
theorem LK_l_81 : LK "QuantisedListsLaw" 81 ⟨"QuantisedListsModel", "scanned", "()I"⟩ := Or.inl (tb 928 (by decide +kernel) rfl)
theorem LK_l_85 : LK "QuantisedListsLaw" 85 ⟨"QuantisedListsModel", "save", "()I"⟩ := Or.inl (tb 932 (by decide +kernel) rfl)
theorem LK_m_206 : LK "QuantisedListsModel" 206 ⟨"QuantisedListsModel", "put", "(I)V"⟩ := Or.inl (tb 936 (by decide +kernel) rfl)
theorem LK_m_209 : LK "QuantisedListsModel" 209 ⟨"QuantisedListsModel", "putTwo", "(I)V"⟩ := Or.inl (tb 940 (by decide +kernel) rfl)
theorem LK_m_212 : LK "QuantisedListsModel" 212 ⟨"QuantisedListsModel", "sum", "(I)I"⟩ := Or.inl (tb 944 (by decide +kernel) rfl)
theorem LK_l_89 : LK "QuantisedListsLaw" 89 ⟨"QuantisedListsModel", "alter", "(II)Z"⟩ := Or.inl (tb 948 (by decide +kernel) rfl)
theorem LK_l_93 : LK "QuantisedListsLaw" 93 ⟨"QuantisedListsModel", "cut", "(I)Z"⟩ := Or.inl (tb 952 (by decide +kernel) rfl)
theorem LK_l_97 : LK "QuantisedListsLaw" 97 ⟨"QuantisedListsModel", "byteAt", "(I)I"⟩ := Or.inl (tb 956 (by decide +kernel) rfl)
theorem LK_l_101 : LK "QuantisedListsLaw" 101 ⟨"QuantisedListsModel", "load", "()I"⟩ := Or.inl (tb 960 (by decide +kernel) rfl)
theorem LK_m_221 : LK "QuantisedListsModel" 221 ⟨"QuantisedListsModel", "fault", "()I"⟩ := Or.inl (tb 964 (by decide +kernel) rfl)
theorem LK_m_215 : LK "QuantisedListsModel" 215 ⟨"QuantisedListsModel", "head", "()I"⟩ := Or.inl (tb 968 (by decide +kernel) rfl)
theorem LK_m_218 : LK "QuantisedListsModel" 218 ⟨"QuantisedListsModel", "two", "(I)I"⟩ := Or.inl (tb 972 (by decide +kernel) rfl)
theorem FW_2_1 : FW 2 1 .int := fun C T N h => by cases h; exact ⟨rfl, by decide +kernel⟩
theorem FW_3_5 : FW 3 5 .int := fun C T N h => by cases h; exact ⟨rfl, by decide +kernel⟩
theorem FW_3_6 : FW 3 6 .int := fun C T N h => by cases h; exact ⟨rfl, by decide +kernel⟩
theorem FW_3_7 : FW 3 7 .int := fun C T N h => by cases h; exact ⟨rfl, by decide +kernel⟩
theorem FW_3_8 : FW 3 8 .int := fun C T N h => by cases h; exact ⟨rfl, by decide +kernel⟩
theorem FW_4_3 : FW 4 3 .boolean := fun C T N h => by cases h; exact ⟨rfl, by decide +kernel⟩
theorem FW_4_4 : FW 4 4 .int := fun C T N h => by cases h; exact ⟨rfl, by decide +kernel⟩
theorem FW_4_5 : FW 4 5 .int := fun C T N h => by cases h; exact ⟨rfl, by decide +kernel⟩
theorem FW_4_6 : FW 4 6 .int := fun C T N h => by cases h; exact ⟨rfl, by decide +kernel⟩
theorem FW_5_1 : FW 5 1 .int := fun C T N h => by cases h; exact ⟨rfl, by decide +kernel⟩
theorem FW_6_5 : FW 6 5 .int := fun C T N h => by cases h; exact ⟨rfl, by decide +kernel⟩
theorem FW_6_6 : FW 6 6 .int := fun C T N h => by cases h; exact ⟨rfl, by decide +kernel⟩
theorem FW_6_7 : FW 6 7 .int := fun C T N h => by cases h; exact ⟨rfl, by decide +kernel⟩
theorem FW_6_8 : FW 6 8 .int := fun C T N h => by cases h; exact ⟨rfl, by decide +kernel⟩
theorem FW_7_1 : FW 7 1 .int := fun C T N h => by cases h; exact ⟨rfl, by decide +kernel⟩
theorem FW_8_2 : FW 8 2 .int := fun C T N h => by cases h; exact ⟨rfl, by decide +kernel⟩
theorem FW_8_3 : FW 8 3 .boolean := fun C T N h => by cases h; exact ⟨rfl, by decide +kernel⟩
theorem FW_8_4 : FW 8 4 .int := fun C T N h => by cases h; exact ⟨rfl, by decide +kernel⟩
theorem FW_8_5 : FW 8 5 .int := fun C T N h => by cases h; exact ⟨rfl, by decide +kernel⟩
theorem FW_8_6 : FW 8 6 .int := fun C T N h => by cases h; exact ⟨rfl, by decide +kernel⟩
theorem FW_8_11 : FW 8 11 .int := fun C T N h => by cases h; exact ⟨rfl, by decide +kernel⟩
theorem FW_8_12 : FW 8 12 .int := fun C T N h => by cases h; exact ⟨rfl, by decide +kernel⟩
theorem FW_8_13 : FW 8 13 .int := fun C T N h => by cases h; exact ⟨rfl, by decide +kernel⟩
theorem FW_8_16 : FW 8 16 .int := fun C T N h => by cases h; exact ⟨rfl, by decide +kernel⟩
theorem FW_8_17 : FW 8 17 .int := fun C T N h => by cases h; exact ⟨rfl, by decide +kernel⟩
theorem FW_8_19 : FW 8 19 .int := fun C T N h => by cases h; exact ⟨rfl, by decide +kernel⟩
theorem FW_9_3 : FW 9 3 .int := fun C T N h => by cases h; exact ⟨rfl, by decide +kernel⟩
theorem FW_9_4 : FW 9 4 .int := fun C T N h => by cases h; exact ⟨rfl, by decide +kernel⟩
