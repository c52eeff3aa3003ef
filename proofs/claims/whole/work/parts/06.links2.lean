theorem NP_f_measure : NP M_f_measure 2 := by decide +kernel
theorem MF_f_keepIds : MF M_f_keepIds := ⟨tb 519 (by decide +kernel) rfl, tb 8 (by decide +kernel) rfl, by decide +kernel, by decide +kernel, by decide +kernel⟩
theorem MV_f_keepIds : MV M_f_keepIds := ⟨tb 518 (by decide +kernel) rfl, tbs (n := 9) 17 (by decide +kernel)⟩
theorem NP_f_keepIds : NP M_f_keepIds 1 := by decide +kernel
theorem MF_q_hit : MF M_q_hit := ⟨tb 523 (by decide +kernel) rfl, tb 1 (by decide +kernel) rfl, by decide +kernel, by decide +kernel, by decide +kernel⟩
theorem MV_q_hit : MV M_q_hit := ⟨tb 521 (by decide +kernel) rfl, tb 522 (by decide +kernel) rfl⟩
theorem NP_q_hit : NP M_q_hit 1 := by decide +kernel
theorem MF_f_hasResult : MF M_f_hasResult := ⟨tb 527 (by decide +kernel) rfl, tb 8 (by decide +kernel) rfl, by decide +kernel, by decide +kernel, by decide +kernel⟩
theorem MV_f_hasResult : MV M_f_hasResult := ⟨tb 525 (by decide +kernel) rfl, tb 526 (by decide +kernel) rfl⟩
theorem NP_f_hasResult : NP M_f_hasResult 1 := by decide +kernel
theorem MF_q_far : MF M_q_far := ⟨tb 532 (by decide +kernel) rfl, tb 1 (by decide +kernel) rfl, by decide +kernel, by decide +kernel, by decide +kernel⟩
theorem MV_q_far : MV M_q_far := ⟨tb 530 (by decide +kernel) rfl, tb 531 (by decide +kernel) rfl⟩
theorem NP_q_far : NP M_q_far 1 := by decide +kernel
theorem MF_q_scanned : MF M_q_scanned := ⟨tb 536 (by decide +kernel) rfl, tb 1 (by decide +kernel) rfl, by decide +kernel, by decide +kernel, by decide +kernel⟩
theorem MV_q_scanned : MV M_q_scanned := ⟨tb 534 (by decide +kernel) rfl, tb 535 (by decide +kernel) rfl⟩
theorem NP_q_scanned : NP M_q_scanned 0 := by decide +kernel
theorem MF_q_save : MF M_q_save := ⟨tb 540 (by decide +kernel) rfl, tb 1 (by decide +kernel) rfl, by decide +kernel, by decide +kernel, by decide +kernel⟩
theorem MV_q_save : MV M_q_save := ⟨tb 538 (by decide +kernel) rfl, tb 539 (by decide +kernel) rfl⟩
theorem NP_q_save : NP M_q_save 0 := by decide +kernel
theorem MF_q_writeHead : MF M_q_writeHead := ⟨tb 544 (by decide +kernel) rfl, tb 1 (by decide +kernel) rfl, by decide +kernel, by decide +kernel, by decide +kernel⟩
theorem MV_q_writeHead : MV M_q_writeHead := ⟨tb 543 (by decide +kernel) rfl, tbs (n := 7) 18 (by decide +kernel)⟩
theorem NP_q_writeHead : NP M_q_writeHead 0 := by decide +kernel
theorem MF_y_put : MF M_y_put := ⟨tb 548 (by decide +kernel) rfl, tb 9 (by decide +kernel) rfl, by decide +kernel, by decide +kernel, by decide +kernel⟩
theorem MV_y_put : MV M_y_put := ⟨tb 546 (by decide +kernel) rfl, tb 547 (by decide +kernel) rfl⟩
theorem NP_y_put : NP M_y_put 1 := by decide +kernel
theorem MF_q_writeCentres : MF M_q_writeCentres := ⟨tb 552 (by decide +kernel) rfl, tb 1 (by decide +kernel) rfl, by decide +kernel, by decide +kernel, by decide +kernel⟩
theorem MV_q_writeCentres : MV M_q_writeCentres := ⟨tb 551 (by decide +kernel) rfl, tbs (n := 7) 19 (by decide +kernel)⟩
theorem NP_q_writeCentres : NP M_q_writeCentres 0 := by decide +kernel
theorem MF_y_putPair : MF M_y_putPair := ⟨tb 556 (by decide +kernel) rfl, tb 9 (by decide +kernel) rfl, by decide +kernel, by decide +kernel, by decide +kernel⟩
theorem MV_y_putPair : MV M_y_putPair := ⟨tb 554 (by decide +kernel) rfl, tb 555 (by decide +kernel) rfl⟩
theorem NP_y_putPair : NP M_y_putPair 1 := by decide +kernel
theorem MF_q_writeWords : MF M_q_writeWords := ⟨tb 561 (by decide +kernel) rfl, tb 1 (by decide +kernel) rfl, by decide +kernel, by decide +kernel, by decide +kernel⟩
theorem MV_q_writeWords : MV M_q_writeWords := ⟨tb 560 (by decide +kernel) rfl, tbs (n := 7) 20 (by decide +kernel)⟩
theorem NP_q_writeWords : NP M_q_writeWords 0 := by decide +kernel
theorem MF_q_writeEntries : MF M_q_writeEntries := ⟨tb 565 (by decide +kernel) rfl, tb 1 (by decide +kernel) rfl, by decide +kernel, by decide +kernel, by decide +kernel⟩
theorem MV_q_writeEntries : MV M_q_writeEntries := ⟨tb 564 (by decide +kernel) rfl, tbs (n := 7) 21 (by decide +kernel)⟩
theorem NP_q_writeEntries : NP M_q_writeEntries 0 := by decide +kernel
theorem MF_y_checkOf : MF M_y_checkOf := ⟨tb 569 (by decide +kernel) rfl, tb 9 (by decide +kernel) rfl, by decide +kernel, by decide +kernel, by decide +kernel⟩
theorem MV_y_checkOf : MV M_y_checkOf := ⟨tb 567 (by decide +kernel) rfl, tb 568 (by decide +kernel) rfl⟩
theorem NP_y_checkOf : NP M_y_checkOf 1 := by decide +kernel
theorem MF_q_alter : MF M_q_alter := ⟨tb 573 (by decide +kernel) rfl, tb 1 (by decide +kernel) rfl, by decide +kernel, by decide +kernel, by decide +kernel⟩
theorem MV_q_alter : MV M_q_alter := ⟨tb 571 (by decide +kernel) rfl, tb 572 (by decide +kernel) rfl⟩
theorem NP_q_alter : NP M_q_alter 2 := by decide +kernel
theorem MF_q_cut : MF M_q_cut := ⟨tb 577 (by decide +kernel) rfl, tb 1 (by decide +kernel) rfl, by decide +kernel, by decide +kernel, by decide +kernel⟩
theorem MV_q_cut : MV M_q_cut := ⟨tb 575 (by decide +kernel) rfl, tb 576 (by decide +kernel) rfl⟩
theorem NP_q_cut : NP M_q_cut 1 := by decide +kernel
theorem MF_q_byteAt : MF M_q_byteAt := ⟨tb 581 (by decide +kernel) rfl, tb 1 (by decide +kernel) rfl, by decide +kernel, by decide +kernel, by decide +kernel⟩
theorem MV_q_byteAt : MV M_q_byteAt := ⟨tb 579 (by decide +kernel) rfl, tb 580 (by decide +kernel) rfl⟩
theorem NP_q_byteAt : NP M_q_byteAt 1 := by decide +kernel
theorem MF_q_load : MF M_q_load := ⟨tb 585 (by decide +kernel) rfl, tb 1 (by decide +kernel) rfl, by decide +kernel, by decide +kernel, by decide +kernel⟩
theorem MV_q_load : MV M_q_load := ⟨tb 583 (by decide +kernel) rfl, tb 584 (by decide +kernel) rfl⟩
theorem NP_q_load : NP M_q_load 0 := by decide +kernel
theorem MF_y_fault : MF M_y_fault := ⟨tb 589 (by decide +kernel) rfl, tb 9 (by decide +kernel) rfl, by decide +kernel, by decide +kernel, by decide +kernel⟩
theorem MV_y_fault : MV M_y_fault := ⟨tb 587 (by decide +kernel) rfl, tb 588 (by decide +kernel) rfl⟩
theorem NP_y_fault : NP M_y_fault 0 := by decide +kernel
theorem MF_y_hasSizes : MF M_y_hasSizes := ⟨tb 593 (by decide +kernel) rfl, tb 9 (by decide +kernel) rfl, by decide +kernel, by decide +kernel, by decide +kernel⟩
theorem MV_y_hasSizes : MV M_y_hasSizes := ⟨tb 592 (by decide +kernel) rfl, tbs (n := 2) 22 (by decide +kernel)⟩
theorem NP_y_hasSizes : NP M_y_hasSizes 0 := by decide +kernel
theorem MF_y_step : MF M_y_step := ⟨tb 598 (by decide +kernel) rfl, tb 9 (by decide +kernel) rfl, by decide +kernel, by decide +kernel, by decide +kernel⟩
theorem MV_y_step : MV M_y_step := ⟨tb 596 (by decide +kernel) rfl, tb 597 (by decide +kernel) rfl⟩
theorem NP_y_step : NP M_y_step 1 := by decide +kernel
theorem MF_y_entryStart : MF M_y_entryStart := ⟨tb 603 (by decide +kernel) rfl, tb 9 (by decide +kernel) rfl, by decide +kernel, by decide +kernel, by decide +kernel⟩
theorem MV_y_entryStart : MV M_y_entryStart := ⟨tb 602 (by decide +kernel) rfl, tbs (n := 2) 23 (by decide +kernel)⟩
theorem NP_y_entryStart : NP M_y_entryStart 1 := by decide +kernel
theorem MF_y_wideCount : MF M_y_wideCount := ⟨tb 607 (by decide +kernel) rfl, tb 9 (by decide +kernel) rfl, by decide +kernel, by decide +kernel, by decide +kernel⟩
theorem MV_y_wideCount : MV M_y_wideCount := ⟨tb 606 (by decide +kernel) rfl, tbs (n := 2) 24 (by decide +kernel)⟩
theorem NP_y_wideCount : NP M_y_wideCount 0 := by decide +kernel
theorem MF_y_hasWides : MF M_y_hasWides := ⟨tb 612 (by decide +kernel) rfl, tb 9 (by decide +kernel) rfl, by decide +kernel, by decide +kernel, by decide +kernel⟩
theorem MV_y_hasWides : MV M_y_hasWides := ⟨tb 611 (by decide +kernel) rfl, tbs (n := 2) 25 (by decide +kernel)⟩
theorem NP_y_hasWides : NP M_y_hasWides 0 := by decide +kernel
theorem MF_y_wide : MF M_y_wide := ⟨tb 616 (by decide +kernel) rfl, tb 9 (by decide +kernel) rfl, by decide +kernel, by decide +kernel, by decide +kernel⟩
theorem MV_y_wide : MV M_y_wide := ⟨tb 614 (by decide +kernel) rfl, tb 615 (by decide +kernel) rfl⟩
theorem NP_y_wide : NP M_y_wide 1 := by decide +kernel
theorem MF_y_pairAt : MF M_y_pairAt := ⟨tb 620 (by decide +kernel) rfl, tb 9 (by decide +kernel) rfl, by decide +kernel, by decide +kernel, by decide +kernel⟩
theorem MV_y_pairAt : MV M_y_pairAt := ⟨tb 619 (by decide +kernel) rfl, tbs (n := 2) 26 (by decide +kernel)⟩
theorem NP_y_pairAt : NP M_y_pairAt 1 := by decide +kernel
theorem MF_y_hasEntries : MF M_y_hasEntries := ⟨tb 624 (by decide +kernel) rfl, tb 9 (by decide +kernel) rfl, by decide +kernel, by decide +kernel, by decide +kernel⟩
theorem MV_y_hasEntries : MV M_y_hasEntries := ⟨tb 623 (by decide +kernel) rfl, tbs (n := 2) 27 (by decide +kernel)⟩
theorem NP_y_hasEntries : NP M_y_hasEntries 0 := by decide +kernel
theorem MF_y_entryId : MF M_y_entryId := ⟨tb 628 (by decide +kernel) rfl, tb 9 (by decide +kernel) rfl, by decide +kernel, by decide +kernel, by decide +kernel⟩
theorem MV_y_entryId : MV M_y_entryId := ⟨tb 626 (by decide +kernel) rfl, tb 627 (by decide +kernel) rfl⟩
theorem NP_y_entryId : NP M_y_entryId 1 := by decide +kernel
theorem MF_y_hasPoint : MF M_y_hasPoint := ⟨tb 632 (by decide +kernel) rfl, tb 9 (by decide +kernel) rfl, by decide +kernel, by decide +kernel, by decide +kernel⟩
theorem MV_y_hasPoint : MV M_y_hasPoint := ⟨tb 631 (by decide +kernel) rfl, tbs (n := 2) 28 (by decide +kernel)⟩
theorem NP_y_hasPoint : NP M_y_hasPoint 1 := by decide +kernel
theorem MF_y_entryCoordinate : MF M_y_entryCoordinate := ⟨tb 636 (by decide +kernel) rfl, tb 9 (by decide +kernel) rfl, by decide +kernel, by decide +kernel, by decide +kernel⟩
theorem MV_y_entryCoordinate : MV M_y_entryCoordinate := ⟨tb 634 (by decide +kernel) rfl, tb 635 (by decide +kernel) rfl⟩
theorem NP_y_entryCoordinate : NP M_y_entryCoordinate 2 := by decide +kernel
theorem MF_q_readHead : MF M_q_readHead := ⟨tb 640 (by decide +kernel) rfl, tb 1 (by decide +kernel) rfl, by decide +kernel, by decide +kernel, by decide +kernel⟩
theorem MV_q_readHead : MV M_q_readHead := ⟨tb 639 (by decide +kernel) rfl, tbs (n := 7) 29 (by decide +kernel)⟩
theorem NP_q_readHead : NP M_q_readHead 0 := by decide +kernel
theorem MF_q_readCentres : MF M_q_readCentres := ⟨tb 645 (by decide +kernel) rfl, tb 1 (by decide +kernel) rfl, by decide +kernel, by decide +kernel, by decide +kernel⟩
theorem MV_q_readCentres : MV M_q_readCentres := ⟨tb 644 (by decide +kernel) rfl, tbs (n := 7) 30 (by decide +kernel)⟩
theorem NP_q_readCentres : NP M_q_readCentres 0 := by decide +kernel
theorem MF_q_readWords : MF M_q_readWords := ⟨tb 650 (by decide +kernel) rfl, tb 1 (by decide +kernel) rfl, by decide +kernel, by decide +kernel, by decide +kernel⟩
theorem MV_q_readWords : MV M_q_readWords := ⟨tb 649 (by decide +kernel) rfl, tbs (n := 7) 31 (by decide +kernel)⟩
theorem NP_q_readWords : NP M_q_readWords 0 := by decide +kernel
theorem MF_q_readEntries : MF M_q_readEntries := ⟨tb 654 (by decide +kernel) rfl, tb 1 (by decide +kernel) rfl, by decide +kernel, by decide +kernel, by decide +kernel⟩
theorem MV_q_readEntries : MV M_q_readEntries := ⟨tb 653 (by decide +kernel) rfl, tbs (n := 7) 32 (by decide +kernel)⟩
theorem NP_q_readEntries : NP M_q_readEntries 0 := by decide +kernel
theorem MF_m_turn : MF M_m_turn := ⟨tb 767 (by decide +kernel) rfl, tb 10 (by decide +kernel) rfl, by decide +kernel, by decide +kernel, by decide +kernel⟩
theorem MV_m_turn : MV M_m_turn := ⟨tb 765 (by decide +kernel) rfl, tb 766 (by decide +kernel) rfl⟩
theorem NP_m_turn : NP M_m_turn 4 := by decide +kernel
theorem MF_m_isTurn : MF M_m_isTurn := ⟨tb 770 (by decide +kernel) rfl, tb 10 (by decide +kernel) rfl, by decide +kernel, by decide +kernel, by decide +kernel⟩
theorem MS_m_isTurn : MS M_m_isTurn := tb 769 (by decide +kernel) rfl
theorem NP_m_isTurn : NP M_m_isTurn 4 := by decide +kernel
theorem MF_m_bit : MF M_m_bit := ⟨tb 773 (by decide +kernel) rfl, tb 10 (by decide +kernel) rfl, by decide +kernel, by decide +kernel, by decide +kernel⟩
theorem MS_m_bit : MS M_m_bit := tb 772 (by decide +kernel) rfl
theorem NP_m_bit : NP M_m_bit 1 := by decide +kernel
theorem MF_m_sample : MF M_m_sample := ⟨tb 777 (by decide +kernel) rfl, tb 10 (by decide +kernel) rfl, by decide +kernel, by decide +kernel, by decide +kernel⟩
theorem MV_m_sample : MV M_m_sample := ⟨tb 775 (by decide +kernel) rfl, tb 776 (by decide +kernel) rfl⟩
theorem NP_m_sample : NP M_m_sample 4 := by decide +kernel
theorem MF_m_give : MF M_m_give := ⟨tb 781 (by decide +kernel) rfl, tb 10 (by decide +kernel) rfl, by decide +kernel, by decide +kernel, by decide +kernel⟩
theorem MV_m_give : MV M_m_give := ⟨tb 780 (by decide +kernel) rfl, tbs (n := 33) 33 (by decide +kernel)⟩
theorem NP_m_give : NP M_m_give 4 := by decide +kernel
theorem MF_m_within : MF M_m_within := ⟨tb 784 (by decide +kernel) rfl, tb 10 (by decide +kernel) rfl, by decide +kernel, by decide +kernel, by decide +kernel⟩
theorem MS_m_within : MS M_m_within := tb 783 (by decide +kernel) rfl
theorem NP_m_within : NP M_m_within 3 := by decide +kernel
theorem MF_m_train : MF M_m_train := ⟨tb 788 (by decide +kernel) rfl, tb 10 (by decide +kernel) rfl, by decide +kernel, by decide +kernel, by decide +kernel⟩
theorem MV_m_train : MV M_m_train := ⟨tb 786 (by decide +kernel) rfl, tb 787 (by decide +kernel) rfl⟩
theorem NP_m_train : NP M_m_train 4 := by decide +kernel
theorem MF_m_turnIt : MF M_m_turnIt := ⟨tb 792 (by decide +kernel) rfl, tb 10 (by decide +kernel) rfl, by decide +kernel, by decide +kernel, by decide +kernel⟩
theorem MV_m_turnIt : MV M_m_turnIt := ⟨tb 791 (by decide +kernel) rfl, tbs (n := 33) 34 (by decide +kernel)⟩
theorem NP_m_turnIt : NP M_m_turnIt 0 := by decide +kernel
theorem MF_m_cluster : MF M_m_cluster := ⟨tb 796 (by decide +kernel) rfl, tb 10 (by decide +kernel) rfl, by decide +kernel, by decide +kernel, by decide +kernel⟩
theorem MV_m_cluster : MV M_m_cluster := ⟨tb 795 (by decide +kernel) rfl, tbs (n := 33) 35 (by decide +kernel)⟩
theorem NP_m_cluster : NP M_m_cluster 3 := by decide +kernel
theorem MF_m_nearest : MF M_m_nearest := ⟨tb 800 (by decide +kernel) rfl, tb 10 (by decide +kernel) rfl, by decide +kernel, by decide +kernel, by decide +kernel⟩
theorem MV_m_nearest : MV M_m_nearest := ⟨tb 799 (by decide +kernel) rfl, tbs (n := 33) 36 (by decide +kernel)⟩
theorem NP_m_nearest : NP M_m_nearest 3 := by decide +kernel
theorem MF_m_gap : MF M_m_gap := ⟨tb 804 (by decide +kernel) rfl, tb 10 (by decide +kernel) rfl, by decide +kernel, by decide +kernel, by decide +kernel⟩
theorem MV_m_gap : MV M_m_gap := ⟨tb 803 (by decide +kernel) rfl, tbs (n := 33) 37 (by decide +kernel)⟩
theorem NP_m_gap : NP M_m_gap 3 := by decide +kernel
theorem MF_m_mean : MF M_m_mean := ⟨tb 808 (by decide +kernel) rfl, tb 10 (by decide +kernel) rfl, by decide +kernel, by decide +kernel, by decide +kernel⟩
theorem MV_m_mean : MV M_m_mean := ⟨tb 807 (by decide +kernel) rfl, tbs (n := 33) 38 (by decide +kernel)⟩
theorem NP_m_mean : NP M_m_mean 2 := by decide +kernel
theorem MF_m_floor : MF M_m_floor := ⟨tb 811 (by decide +kernel) rfl, tb 10 (by decide +kernel) rfl, by decide +kernel, by decide +kernel, by decide +kernel⟩
theorem MS_m_floor : MS M_m_floor := tb 810 (by decide +kernel) rfl
theorem NP_m_floor : NP M_m_floor 2 := by decide +kernel
theorem MF_m_fill : MF M_m_fill := ⟨tb 815 (by decide +kernel) rfl, tb 10 (by decide +kernel) rfl, by decide +kernel, by decide +kernel, by decide +kernel⟩
theorem MV_m_fill : MV M_m_fill := ⟨tb 814 (by decide +kernel) rfl, tbs (n := 33) 39 (by decide +kernel)⟩
theorem NP_m_fill : NP M_m_fill 2 := by decide +kernel
theorem MF_m_hasMember : MF M_m_hasMember := ⟨tb 819 (by decide +kernel) rfl, tb 10 (by decide +kernel) rfl, by decide +kernel, by decide +kernel, by decide +kernel⟩
theorem MV_m_hasMember : MV M_m_hasMember := ⟨tb 818 (by decide +kernel) rfl, tbs (n := 33) 40 (by decide +kernel)⟩
theorem NP_m_hasMember : NP M_m_hasMember 1 := by decide +kernel
theorem MF_m_parts : MF M_m_parts := ⟨tb 823 (by decide +kernel) rfl, tb 10 (by decide +kernel) rfl, by decide +kernel, by decide +kernel, by decide +kernel⟩
theorem MV_m_parts : MV M_m_parts := ⟨tb 822 (by decide +kernel) rfl, tbs (n := 33) 41 (by decide +kernel)⟩
theorem NP_m_parts : NP M_m_parts 0 := by decide +kernel
theorem MF_m_learn : MF M_m_learn := ⟨tb 827 (by decide +kernel) rfl, tb 10 (by decide +kernel) rfl, by decide +kernel, by decide +kernel, by decide +kernel⟩
theorem MV_m_learn : MV M_m_learn := ⟨tb 826 (by decide +kernel) rfl, tbs (n := 33) 42 (by decide +kernel)⟩
theorem NP_m_learn : NP M_m_learn 2 := by decide +kernel
theorem MF_m_spread : MF M_m_spread := ⟨tb 831 (by decide +kernel) rfl, tb 10 (by decide +kernel) rfl, by decide +kernel, by decide +kernel, by decide +kernel⟩
theorem MV_m_spread : MV M_m_spread := ⟨tb 830 (by decide +kernel) rfl, tbs (n := 33) 43 (by decide +kernel)⟩
theorem NP_m_spread : NP M_m_spread 1 := by decide +kernel
theorem MF_m_loss : MF M_m_loss := ⟨tb 835 (by decide +kernel) rfl, tb 10 (by decide +kernel) rfl, by decide +kernel, by decide +kernel, by decide +kernel⟩
theorem MV_m_loss : MV M_m_loss := ⟨tb 834 (by decide +kernel) rfl, tbs (n := 33) 44 (by decide +kernel)⟩
theorem NP_m_loss : NP M_m_loss 0 := by decide +kernel
theorem MF_m_nearestWord : MF M_m_nearestWord := ⟨tb 839 (by decide +kernel) rfl, tb 10 (by decide +kernel) rfl, by decide +kernel, by decide +kernel, by decide +kernel⟩
theorem MV_m_nearestWord : MV M_m_nearestWord := ⟨tb 838 (by decide +kernel) rfl, tbs (n := 33) 45 (by decide +kernel)⟩
theorem NP_m_nearestWord : NP M_m_nearestWord 1 := by decide +kernel
theorem MF_m_wordGap : MF M_m_wordGap := ⟨tb 843 (by decide +kernel) rfl, tb 10 (by decide +kernel) rfl, by decide +kernel, by decide +kernel, by decide +kernel⟩
theorem MV_m_wordGap : MV M_m_wordGap := ⟨tb 842 (by decide +kernel) rfl, tbs (n := 33) 46 (by decide +kernel)⟩
theorem NP_m_wordGap : NP M_m_wordGap 2 := by decide +kernel
theorem MF_m_size : MF M_m_size := ⟨tb 847 (by decide +kernel) rfl, tb 10 (by decide +kernel) rfl, by decide +kernel, by decide +kernel, by decide +kernel⟩
theorem MV_m_size : MV M_m_size := ⟨tb 846 (by decide +kernel) rfl, tbs (n := 33) 47 (by decide +kernel)⟩
theorem NP_m_size : NP M_m_size 0 := by decide +kernel
theorem MF_m_centre : MF M_m_centre := ⟨tb 851 (by decide +kernel) rfl, tb 10 (by decide +kernel) rfl, by decide +kernel, by decide +kernel, by decide +kernel⟩
theorem MV_m_centre : MV M_m_centre := ⟨tb 849 (by decide +kernel) rfl, tb 850 (by decide +kernel) rfl⟩
theorem NP_m_centre : NP M_m_centre 2 := by decide +kernel
theorem MF_m_word : MF M_m_word := ⟨tb 855 (by decide +kernel) rfl, tb 10 (by decide +kernel) rfl, by decide +kernel, by decide +kernel, by decide +kernel⟩
theorem MV_m_word : MV M_m_word := ⟨tb 853 (by decide +kernel) rfl, tb 854 (by decide +kernel) rfl⟩
theorem NP_m_word : NP M_m_word 3 := by decide +kernel
theorem MF_m_add : MF M_m_add := ⟨tb 859 (by decide +kernel) rfl, tb 10 (by decide +kernel) rfl, by decide +kernel, by decide +kernel, by decide +kernel⟩
theorem MV_m_add : MV M_m_add := ⟨tb 857 (by decide +kernel) rfl, tb 858 (by decide +kernel) rfl⟩
theorem NP_m_add : NP M_m_add 5 := by decide +kernel
theorem MF_m_listNow : MF M_m_listNow := ⟨tb 863 (by decide +kernel) rfl, tb 10 (by decide +kernel) rfl, by decide +kernel, by decide +kernel, by decide +kernel⟩
theorem MV_m_listNow : MV M_m_listNow := ⟨tb 862 (by decide +kernel) rfl, tbs (n := 33) 48 (by decide +kernel)⟩
theorem NP_m_listNow : NP M_m_listNow 0 := by decide +kernel
theorem MF_m_away : MF M_m_away := ⟨tb 867 (by decide +kernel) rfl, tb 10 (by decide +kernel) rfl, by decide +kernel, by decide +kernel, by decide +kernel⟩
theorem MV_m_away : MV M_m_away := ⟨tb 866 (by decide +kernel) rfl, tbs (n := 33) 49 (by decide +kernel)⟩
theorem NP_m_away : NP M_m_away 1 := by decide +kernel
theorem MF_m_remove : MF M_m_remove := ⟨tb 871 (by decide +kernel) rfl, tb 10 (by decide +kernel) rfl, by decide +kernel, by decide +kernel, by decide +kernel⟩
theorem MV_m_remove : MV M_m_remove := ⟨tb 869 (by decide +kernel) rfl, tb 870 (by decide +kernel) rfl⟩
theorem NP_m_remove : NP M_m_remove 1 := by decide +kernel
theorem MF_m_there : MF M_m_there := ⟨tb 875 (by decide +kernel) rfl, tb 10 (by decide +kernel) rfl, by decide +kernel, by decide +kernel, by decide +kernel⟩
theorem MV_m_there : MV M_m_there := ⟨tb 874 (by decide +kernel) rfl, tbs (n := 33) 50 (by decide +kernel)⟩
theorem NP_m_there : NP M_m_there 1 := by decide +kernel
theorem MF_m_listOf : MF M_m_listOf := ⟨tb 879 (by decide +kernel) rfl, tb 10 (by decide +kernel) rfl, by decide +kernel, by decide +kernel, by decide +kernel⟩
theorem MV_m_listOf : MV M_m_listOf := ⟨tb 877 (by decide +kernel) rfl, tb 878 (by decide +kernel) rfl⟩
theorem NP_m_listOf : NP M_m_listOf 1 := by decide +kernel
theorem MF_m_turnEntry : MF M_m_turnEntry := ⟨tb 883 (by decide +kernel) rfl, tb 10 (by decide +kernel) rfl, by decide +kernel, by decide +kernel, by decide +kernel⟩
theorem MV_m_turnEntry : MV M_m_turnEntry := ⟨tb 882 (by decide +kernel) rfl, tbs (n := 33) 51 (by decide +kernel)⟩
theorem NP_m_turnEntry : NP M_m_turnEntry 1 := by decide +kernel
theorem MF_m_codeOf : MF M_m_codeOf := ⟨tb 887 (by decide +kernel) rfl, tb 10 (by decide +kernel) rfl, by decide +kernel, by decide +kernel, by decide +kernel⟩
theorem MV_m_codeOf : MV M_m_codeOf := ⟨tb 885 (by decide +kernel) rfl, tb 886 (by decide +kernel) rfl⟩
theorem NP_m_codeOf : NP M_m_codeOf 1 := by decide +kernel
theorem MF_m_leave : MF M_m_leave := ⟨tb 891 (by decide +kernel) rfl, tb 10 (by decide +kernel) rfl, by decide +kernel, by decide +kernel, by decide +kernel⟩
theorem MV_m_leave : MV M_m_leave := ⟨tb 890 (by decide +kernel) rfl, tbs (n := 33) 52 (by decide +kernel)⟩
theorem NP_m_leave : NP M_m_leave 1 := by decide +kernel
theorem MF_m_entries : MF M_m_entries := ⟨tb 895 (by decide +kernel) rfl, tb 10 (by decide +kernel) rfl, by decide +kernel, by decide +kernel, by decide +kernel⟩
