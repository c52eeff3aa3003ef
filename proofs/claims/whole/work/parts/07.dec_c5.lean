theorem d_f_sort_99 : decode M_f_sort.2.1 99 = .ok (.iinc 2 1, 3) := by decide +kernel
theorem d_f_sort_102 : decode M_f_sort.2.1 102 = .ok (.goto (-100), 3) := by decide +kernel
theorem d_f_sort_105 : decode M_f_sort.2.1 105 = .ok (.return_, 1) := by decide +kernel
theorem d_f_isBefore_0 : decode M_f_isBefore.2.1 0 = .ok (.iload_n 1, 1) := by decide +kernel
theorem d_f_isBefore_1 : decode M_f_isBefore.2.1 1 = .ok (.aload_n 0, 1) := by decide +kernel
theorem d_f_isBefore_2 : decode M_f_isBefore.2.1 2 = .ok (.getfield 21, 3) := by decide +kernel
theorem d_f_isBefore_5 : decode M_f_isBefore.2.1 5 = .ok (.iload_n 3, 1) := by decide +kernel
theorem d_f_isBefore_6 : decode M_f_isBefore.2.1 6 = .ok (.iaload, 1) := by decide +kernel
theorem d_f_isBefore_7 : decode M_f_isBefore.2.1 7 = .ok (.if_icmp .lt 23, 3) := by decide +kernel
theorem d_f_isBefore_10 : decode M_f_isBefore.2.1 10 = .ok (.iload_n 1, 1) := by decide +kernel
theorem d_f_isBefore_11 : decode M_f_isBefore.2.1 11 = .ok (.aload_n 0, 1) := by decide +kernel
theorem d_f_isBefore_12 : decode M_f_isBefore.2.1 12 = .ok (.getfield 21, 3) := by decide +kernel
theorem d_f_isBefore_15 : decode M_f_isBefore.2.1 15 = .ok (.iload_n 3, 1) := by decide +kernel
theorem d_f_isBefore_16 : decode M_f_isBefore.2.1 16 = .ok (.iaload, 1) := by decide +kernel
theorem d_f_isBefore_17 : decode M_f_isBefore.2.1 17 = .ok (.if_icmp .ne 17, 3) := by decide +kernel
theorem d_f_isBefore_20 : decode M_f_isBefore.2.1 20 = .ok (.iload_n 2, 1) := by decide +kernel
theorem d_f_isBefore_21 : decode M_f_isBefore.2.1 21 = .ok (.aload_n 0, 1) := by decide +kernel
theorem d_f_isBefore_22 : decode M_f_isBefore.2.1 22 = .ok (.getfield 18, 3) := by decide +kernel
theorem d_f_isBefore_25 : decode M_f_isBefore.2.1 25 = .ok (.iload_n 3, 1) := by decide +kernel
theorem d_f_isBefore_26 : decode M_f_isBefore.2.1 26 = .ok (.iaload, 1) := by decide +kernel
theorem d_f_isBefore_27 : decode M_f_isBefore.2.1 27 = .ok (.if_icmp .ge 7, 3) := by decide +kernel
theorem d_f_isBefore_30 : decode M_f_isBefore.2.1 30 = .ok (.iconst 1, 1) := by decide +kernel
theorem d_f_isBefore_31 : decode M_f_isBefore.2.1 31 = .ok (.goto 4, 3) := by decide +kernel
theorem d_f_isBefore_34 : decode M_f_isBefore.2.1 34 = .ok (.iconst 0, 1) := by decide +kernel
theorem d_f_isBefore_35 : decode M_f_isBefore.2.1 35 = .ok (.ireturn, 1) := by decide +kernel
theorem d_f_measure_0 : decode M_f_measure.2.1 0 = .ok (.iconst 0, 1) := by decide +kernel
theorem d_f_measure_1 : decode M_f_measure.2.1 1 = .ok (.istore_n 3, 1) := by decide +kernel
theorem d_f_measure_2 : decode M_f_measure.2.1 2 = .ok (.iload_n 3, 1) := by decide +kernel
theorem d_f_measure_3 : decode M_f_measure.2.1 3 = .ok (.iload_n 2, 1) := by decide +kernel
theorem d_f_measure_4 : decode M_f_measure.2.1 4 = .ok (.if_icmp .ge 38, 3) := by decide +kernel
theorem d_f_measure_7 : decode M_f_measure.2.1 7 = .ok (.aload_n 0, 1) := by decide +kernel
theorem d_f_measure_8 : decode M_f_measure.2.1 8 = .ok (.getfield 21, 3) := by decide +kernel
theorem d_f_measure_11 : decode M_f_measure.2.1 11 = .ok (.iload_n 3, 1) := by decide +kernel
theorem d_f_measure_12 : decode M_f_measure.2.1 12 = .ok (.aload_n 0, 1) := by decide +kernel
theorem d_f_measure_13 : decode M_f_measure.2.1 13 = .ok (.getfield 15, 3) := by decide +kernel
theorem d_f_measure_16 : decode M_f_measure.2.1 16 = .ok (.aload_n 1, 1) := by decide +kernel
theorem d_f_measure_17 : decode M_f_measure.2.1 17 = .ok (.getfield 71, 3) := by decide +kernel
theorem d_f_measure_20 : decode M_f_measure.2.1 20 = .ok (.aload_n 0, 1) := by decide +kernel
theorem d_f_measure_21 : decode M_f_measure.2.1 21 = .ok (.getfield 18, 3) := by decide +kernel
theorem d_f_measure_24 : decode M_f_measure.2.1 24 = .ok (.iload_n 3, 1) := by decide +kernel
theorem d_f_measure_25 : decode M_f_measure.2.1 25 = .ok (.iaload, 1) := by decide +kernel
theorem d_f_measure_26 : decode M_f_measure.2.1 26 = .ok (.aaload, 1) := by decide +kernel
theorem d_f_measure_27 : decode M_f_measure.2.1 27 = .ok (.getfield 90, 3) := by decide +kernel
theorem d_f_measure_30 : decode M_f_measure.2.1 30 = .ok (.iconst 0, 1) := by decide +kernel
theorem d_f_measure_31 : decode M_f_measure.2.1 31 = .ok (.iconst 4, 1) := by decide +kernel
theorem d_f_measure_32 : decode M_f_measure.2.1 32 = .ok (.invokestatic 93, 3) := by decide +kernel
theorem d_f_measure_35 : decode M_f_measure.2.1 35 = .ok (.iastore, 1) := by decide +kernel
theorem d_f_measure_36 : decode M_f_measure.2.1 36 = .ok (.iinc 3 1, 3) := by decide +kernel
theorem d_f_measure_39 : decode M_f_measure.2.1 39 = .ok (.goto (-37), 3) := by decide +kernel
theorem d_f_measure_42 : decode M_f_measure.2.1 42 = .ok (.return_, 1) := by decide +kernel
theorem d_f_keepIds_0 : decode M_f_keepIds.2.1 0 = .ok (.iconst 0, 1) := by decide +kernel
theorem d_f_keepIds_1 : decode M_f_keepIds.2.1 1 = .ok (.istore_n 2, 1) := by decide +kernel
theorem d_f_keepIds_2 : decode M_f_keepIds.2.1 2 = .ok (.iload_n 2, 1) := by decide +kernel
theorem d_f_keepIds_3 : decode M_f_keepIds.2.1 3 = .ok (.aload_n 0, 1) := by decide +kernel
theorem d_f_keepIds_4 : decode M_f_keepIds.2.1 4 = .ok (.getfield 34, 3) := by decide +kernel
theorem d_f_keepIds_7 : decode M_f_keepIds.2.1 7 = .ok (.if_icmp .ge 29, 3) := by decide +kernel
theorem d_f_keepIds_10 : decode M_f_keepIds.2.1 10 = .ok (.aload_n 0, 1) := by decide +kernel
theorem d_f_keepIds_11 : decode M_f_keepIds.2.1 11 = .ok (.getfield 24, 3) := by decide +kernel
theorem d_f_keepIds_14 : decode M_f_keepIds.2.1 14 = .ok (.iload_n 2, 1) := by decide +kernel
theorem d_f_keepIds_15 : decode M_f_keepIds.2.1 15 = .ok (.aload_n 1, 1) := by decide +kernel
theorem d_f_keepIds_16 : decode M_f_keepIds.2.1 16 = .ok (.getfield 71, 3) := by decide +kernel
theorem d_f_keepIds_19 : decode M_f_keepIds.2.1 19 = .ok (.aload_n 0, 1) := by decide +kernel
theorem d_f_keepIds_20 : decode M_f_keepIds.2.1 20 = .ok (.getfield 18, 3) := by decide +kernel
theorem d_f_keepIds_23 : decode M_f_keepIds.2.1 23 = .ok (.iload_n 2, 1) := by decide +kernel
theorem d_f_keepIds_24 : decode M_f_keepIds.2.1 24 = .ok (.iaload, 1) := by decide +kernel
theorem d_f_keepIds_25 : decode M_f_keepIds.2.1 25 = .ok (.aaload, 1) := by decide +kernel
theorem d_f_keepIds_26 : decode M_f_keepIds.2.1 26 = .ok (.getfield 100, 3) := by decide +kernel
theorem d_f_keepIds_29 : decode M_f_keepIds.2.1 29 = .ok (.iastore, 1) := by decide +kernel
theorem d_f_keepIds_30 : decode M_f_keepIds.2.1 30 = .ok (.iinc 2 1, 3) := by decide +kernel
theorem d_f_keepIds_33 : decode M_f_keepIds.2.1 33 = .ok (.goto (-31), 3) := by decide +kernel
theorem d_f_keepIds_36 : decode M_f_keepIds.2.1 36 = .ok (.return_, 1) := by decide +kernel
theorem d_q_hit_0 : decode M_q_hit.2.1 0 = .ok (.aload_n 0, 1) := by decide +kernel
theorem d_q_hit_1 : decode M_q_hit.2.1 1 = .ok (.getfield 47, 3) := by decide +kernel
theorem d_q_hit_4 : decode M_q_hit.2.1 4 = .ok (.iload_n 1, 1) := by decide +kernel
theorem d_q_hit_5 : decode M_q_hit.2.1 5 = .ok (.invokevirtual 182, 3) := by decide +kernel
theorem d_q_hit_8 : decode M_q_hit.2.1 8 = .ok (.ifCond .eq 15, 3) := by decide +kernel
theorem d_q_hit_11 : decode M_q_hit.2.1 11 = .ok (.aload_n 0, 1) := by decide +kernel
theorem d_q_hit_12 : decode M_q_hit.2.1 12 = .ok (.getfield 47, 3) := by decide +kernel
theorem d_q_hit_15 : decode M_q_hit.2.1 15 = .ok (.getfield 185, 3) := by decide +kernel
theorem d_q_hit_18 : decode M_q_hit.2.1 18 = .ok (.iload_n 1, 1) := by decide +kernel
theorem d_q_hit_19 : decode M_q_hit.2.1 19 = .ok (.iaload, 1) := by decide +kernel
theorem d_q_hit_20 : decode M_q_hit.2.1 20 = .ok (.goto 4, 3) := by decide +kernel
theorem d_q_hit_23 : decode M_q_hit.2.1 23 = .ok (.iconst (-1), 1) := by decide +kernel
theorem d_q_hit_24 : decode M_q_hit.2.1 24 = .ok (.ireturn, 1) := by decide +kernel
theorem d_f_hasResult_0 : decode M_f_hasResult.2.1 0 = .ok (.iload_n 1, 1) := by decide +kernel
theorem d_f_hasResult_1 : decode M_f_hasResult.2.1 1 = .ok (.iconst 0, 1) := by decide +kernel
theorem d_f_hasResult_2 : decode M_f_hasResult.2.1 2 = .ok (.aload_n 0, 1) := by decide +kernel
theorem d_f_hasResult_3 : decode M_f_hasResult.2.1 3 = .ok (.getfield 34, 3) := by decide +kernel
theorem d_f_hasResult_6 : decode M_f_hasResult.2.1 6 = .ok (.iconst 1, 1) := by decide +kernel
theorem d_f_hasResult_7 : decode M_f_hasResult.2.1 7 = .ok (.isub, 1) := by decide +kernel
theorem d_f_hasResult_8 : decode M_f_hasResult.2.1 8 = .ok (.invokestatic 37, 3) := by decide +kernel
theorem d_f_hasResult_11 : decode M_f_hasResult.2.1 11 = .ok (.ireturn, 1) := by decide +kernel
theorem d_q_far_0 : decode M_q_far.2.1 0 = .ok (.aload_n 0, 1) := by decide +kernel
theorem d_q_far_1 : decode M_q_far.2.1 1 = .ok (.getfield 47, 3) := by decide +kernel
theorem d_q_far_4 : decode M_q_far.2.1 4 = .ok (.iload_n 1, 1) := by decide +kernel
theorem d_q_far_5 : decode M_q_far.2.1 5 = .ok (.invokevirtual 182, 3) := by decide +kernel
theorem d_q_far_8 : decode M_q_far.2.1 8 = .ok (.ifCond .eq 15, 3) := by decide +kernel
theorem d_q_far_11 : decode M_q_far.2.1 11 = .ok (.aload_n 0, 1) := by decide +kernel
theorem d_q_far_12 : decode M_q_far.2.1 12 = .ok (.getfield 47, 3) := by decide +kernel
theorem d_q_far_15 : decode M_q_far.2.1 15 = .ok (.getfield 188, 3) := by decide +kernel
theorem d_q_far_18 : decode M_q_far.2.1 18 = .ok (.iload_n 1, 1) := by decide +kernel
theorem d_q_far_19 : decode M_q_far.2.1 19 = .ok (.iaload, 1) := by decide +kernel
theorem d_q_far_20 : decode M_q_far.2.1 20 = .ok (.goto 4, 3) := by decide +kernel
theorem d_q_far_23 : decode M_q_far.2.1 23 = .ok (.iconst (-1), 1) := by decide +kernel
theorem d_q_far_24 : decode M_q_far.2.1 24 = .ok (.ireturn, 1) := by decide +kernel
theorem d_q_scanned_0 : decode M_q_scanned.2.1 0 = .ok (.aload_n 0, 1) := by decide +kernel
theorem d_q_scanned_1 : decode M_q_scanned.2.1 1 = .ok (.getfield 47, 3) := by decide +kernel
theorem d_q_scanned_4 : decode M_q_scanned.2.1 4 = .ok (.getfield 191, 3) := by decide +kernel
theorem d_q_scanned_7 : decode M_q_scanned.2.1 7 = .ok (.ireturn, 1) := by decide +kernel
theorem d_q_save_0 : decode M_q_save.2.1 0 = .ok (.aload_n 0, 1) := by decide +kernel
theorem d_q_save_1 : decode M_q_save.2.1 1 = .ok (.getfield 33, 3) := by decide +kernel
theorem d_q_save_4 : decode M_q_save.2.1 4 = .ok (.getfield 62, 3) := by decide +kernel
theorem d_q_save_7 : decode M_q_save.2.1 7 = .ok (.ifCond .ne 5, 3) := by decide +kernel
theorem d_q_save_10 : decode M_q_save.2.1 10 = .ok (.iconst (-1), 1) := by decide +kernel
theorem d_q_save_11 : decode M_q_save.2.1 11 = .ok (.ireturn, 1) := by decide +kernel
theorem d_q_save_12 : decode M_q_save.2.1 12 = .ok (.aload_n 0, 1) := by decide +kernel
theorem d_q_save_13 : decode M_q_save.2.1 13 = .ok (.getfield 54, 3) := by decide +kernel
theorem d_q_save_16 : decode M_q_save.2.1 16 = .ok (.iconst 0, 1) := by decide +kernel
theorem d_q_save_17 : decode M_q_save.2.1 17 = .ok (.putfield 194, 3) := by decide +kernel
theorem d_q_save_20 : decode M_q_save.2.1 20 = .ok (.aload_n 0, 1) := by decide +kernel
theorem d_q_save_21 : decode M_q_save.2.1 21 = .ok (.invokevirtual 197, 3) := by decide +kernel
theorem d_q_save_24 : decode M_q_save.2.1 24 = .ok (.aload_n 0, 1) := by decide +kernel
theorem d_q_save_25 : decode M_q_save.2.1 25 = .ok (.invokevirtual 200, 3) := by decide +kernel
theorem d_q_save_28 : decode M_q_save.2.1 28 = .ok (.aload_n 0, 1) := by decide +kernel
theorem d_q_save_29 : decode M_q_save.2.1 29 = .ok (.invokevirtual 203, 3) := by decide +kernel
theorem d_q_save_32 : decode M_q_save.2.1 32 = .ok (.aload_n 0, 1) := by decide +kernel
theorem d_q_save_33 : decode M_q_save.2.1 33 = .ok (.invokevirtual 206, 3) := by decide +kernel
theorem d_q_save_36 : decode M_q_save.2.1 36 = .ok (.aload_n 0, 1) := by decide +kernel
theorem d_q_save_37 : decode M_q_save.2.1 37 = .ok (.getfield 54, 3) := by decide +kernel
theorem d_q_save_40 : decode M_q_save.2.1 40 = .ok (.aload_n 0, 1) := by decide +kernel
theorem d_q_save_41 : decode M_q_save.2.1 41 = .ok (.getfield 54, 3) := by decide +kernel
theorem d_q_save_44 : decode M_q_save.2.1 44 = .ok (.aload_n 0, 1) := by decide +kernel
theorem d_q_save_45 : decode M_q_save.2.1 45 = .ok (.getfield 54, 3) := by decide +kernel
theorem d_q_save_48 : decode M_q_save.2.1 48 = .ok (.getfield 194, 3) := by decide +kernel
theorem d_q_save_51 : decode M_q_save.2.1 51 = .ok (.invokevirtual 209, 3) := by decide +kernel
theorem d_q_save_54 : decode M_q_save.2.1 54 = .ok (.invokevirtual 212, 3) := by decide +kernel
theorem d_q_save_57 : decode M_q_save.2.1 57 = .ok (.aload_n 0, 1) := by decide +kernel
theorem d_q_save_58 : decode M_q_save.2.1 58 = .ok (.getfield 54, 3) := by decide +kernel
theorem d_q_save_61 : decode M_q_save.2.1 61 = .ok (.getfield 194, 3) := by decide +kernel
theorem d_q_save_64 : decode M_q_save.2.1 64 = .ok (.ireturn, 1) := by decide +kernel
theorem d_q_writeHead_0 : decode M_q_writeHead.2.1 0 = .ok (.aload_n 0, 1) := by decide +kernel
theorem d_q_writeHead_1 : decode M_q_writeHead.2.1 1 = .ok (.getfield 54, 3) := by decide +kernel
theorem d_q_writeHead_4 : decode M_q_writeHead.2.1 4 = .ok (.bipush 86, 2) := by decide +kernel
theorem d_q_writeHead_6 : decode M_q_writeHead.2.1 6 = .ok (.invokevirtual 212, 3) := by decide +kernel
theorem d_q_writeHead_9 : decode M_q_writeHead.2.1 9 = .ok (.aload_n 0, 1) := by decide +kernel
theorem d_q_writeHead_10 : decode M_q_writeHead.2.1 10 = .ok (.getfield 54, 3) := by decide +kernel
theorem d_q_writeHead_13 : decode M_q_writeHead.2.1 13 = .ok (.iconst 1, 1) := by decide +kernel
theorem d_q_writeHead_14 : decode M_q_writeHead.2.1 14 = .ok (.invokevirtual 212, 3) := by decide +kernel
theorem d_q_writeHead_17 : decode M_q_writeHead.2.1 17 = .ok (.aload_n 0, 1) := by decide +kernel
theorem d_q_writeHead_18 : decode M_q_writeHead.2.1 18 = .ok (.getfield 54, 3) := by decide +kernel
theorem d_q_writeHead_21 : decode M_q_writeHead.2.1 21 = .ok (.aload_n 0, 1) := by decide +kernel
theorem d_q_writeHead_22 : decode M_q_writeHead.2.1 22 = .ok (.getfield 33, 3) := by decide +kernel
theorem d_q_writeHead_25 : decode M_q_writeHead.2.1 25 = .ok (.getfield 118, 3) := by decide +kernel
theorem d_q_writeHead_28 : decode M_q_writeHead.2.1 28 = .ok (.invokevirtual 212, 3) := by decide +kernel
theorem d_q_writeHead_31 : decode M_q_writeHead.2.1 31 = .ok (.aload_n 0, 1) := by decide +kernel
theorem d_q_writeHead_32 : decode M_q_writeHead.2.1 32 = .ok (.getfield 54, 3) := by decide +kernel
theorem d_q_writeHead_35 : decode M_q_writeHead.2.1 35 = .ok (.aload_n 0, 1) := by decide +kernel
theorem d_q_writeHead_36 : decode M_q_writeHead.2.1 36 = .ok (.getfield 33, 3) := by decide +kernel
theorem d_q_writeHead_39 : decode M_q_writeHead.2.1 39 = .ok (.getfield 239, 3) := by decide +kernel
theorem d_q_writeHead_42 : decode M_q_writeHead.2.1 42 = .ok (.invokevirtual 212, 3) := by decide +kernel
theorem d_q_writeHead_45 : decode M_q_writeHead.2.1 45 = .ok (.aload_n 0, 1) := by decide +kernel
theorem d_q_writeHead_46 : decode M_q_writeHead.2.1 46 = .ok (.getfield 54, 3) := by decide +kernel
theorem d_q_writeHead_49 : decode M_q_writeHead.2.1 49 = .ok (.aload_n 0, 1) := by decide +kernel
theorem d_q_writeHead_50 : decode M_q_writeHead.2.1 50 = .ok (.getfield 33, 3) := by decide +kernel
theorem d_q_writeHead_53 : decode M_q_writeHead.2.1 53 = .ok (.getfield 260, 3) := by decide +kernel
theorem d_q_writeHead_56 : decode M_q_writeHead.2.1 56 = .ok (.invokevirtual 212, 3) := by decide +kernel
theorem d_q_writeHead_59 : decode M_q_writeHead.2.1 59 = .ok (.aload_n 0, 1) := by decide +kernel
theorem d_q_writeHead_60 : decode M_q_writeHead.2.1 60 = .ok (.getfield 54, 3) := by decide +kernel
theorem d_q_writeHead_63 : decode M_q_writeHead.2.1 63 = .ok (.aload_n 0, 1) := by decide +kernel
theorem d_q_writeHead_64 : decode M_q_writeHead.2.1 64 = .ok (.getfield 40, 3) := by decide +kernel
theorem d_q_writeHead_67 : decode M_q_writeHead.2.1 67 = .ok (.getfield 85, 3) := by decide +kernel
theorem d_q_writeHead_70 : decode M_q_writeHead.2.1 70 = .ok (.invokevirtual 212, 3) := by decide +kernel
theorem d_q_writeHead_73 : decode M_q_writeHead.2.1 73 = .ok (.iconst 0, 1) := by decide +kernel
theorem d_q_writeHead_74 : decode M_q_writeHead.2.1 74 = .ok (.istore_n 1, 1) := by decide +kernel
theorem d_q_writeHead_75 : decode M_q_writeHead.2.1 75 = .ok (.iload_n 1, 1) := by decide +kernel
theorem d_q_writeHead_76 : decode M_q_writeHead.2.1 76 = .ok (.iconst 4, 1) := by decide +kernel
theorem d_q_writeHead_77 : decode M_q_writeHead.2.1 77 = .ok (.if_icmp .ge 27, 3) := by decide +kernel
theorem d_q_writeHead_80 : decode M_q_writeHead.2.1 80 = .ok (.aload_n 0, 1) := by decide +kernel
theorem d_q_writeHead_81 : decode M_q_writeHead.2.1 81 = .ok (.getfield 54, 3) := by decide +kernel
theorem d_q_writeHead_84 : decode M_q_writeHead.2.1 84 = .ok (.aload_n 0, 1) := by decide +kernel
theorem d_q_writeHead_85 : decode M_q_writeHead.2.1 85 = .ok (.getfield 10, 3) := by decide +kernel
theorem d_q_writeHead_88 : decode M_q_writeHead.2.1 88 = .ok (.getfield 291, 3) := by decide +kernel
theorem d_q_writeHead_91 : decode M_q_writeHead.2.1 91 = .ok (.iload_n 1, 1) := by decide +kernel
theorem d_q_writeHead_92 : decode M_q_writeHead.2.1 92 = .ok (.iaload, 1) := by decide +kernel
theorem d_q_writeHead_93 : decode M_q_writeHead.2.1 93 = .ok (.iconst 4, 1) := by decide +kernel
theorem d_q_writeHead_94 : decode M_q_writeHead.2.1 94 = .ok (.iadd, 1) := by decide +kernel
theorem d_q_writeHead_95 : decode M_q_writeHead.2.1 95 = .ok (.invokevirtual 212, 3) := by decide +kernel
theorem d_q_writeHead_98 : decode M_q_writeHead.2.1 98 = .ok (.iinc 1 1, 3) := by decide +kernel
theorem d_q_writeHead_101 : decode M_q_writeHead.2.1 101 = .ok (.goto (-26), 3) := by decide +kernel
theorem d_q_writeHead_104 : decode M_q_writeHead.2.1 104 = .ok (.return_, 1) := by decide +kernel
theorem d_y_put_0 : decode M_y_put.2.1 0 = .ok (.aload_n 0, 1) := by decide +kernel
theorem d_y_put_1 : decode M_y_put.2.1 1 = .ok (.getfield 15, 3) := by decide +kernel
theorem d_y_put_4 : decode M_y_put.2.1 4 = .ok (.sipush 250, 3) := by decide +kernel
theorem d_y_put_7 : decode M_y_put.2.1 7 = .ok (.if_icmp .ge 23, 3) := by decide +kernel
theorem d_y_put_10 : decode M_y_put.2.1 10 = .ok (.aload_n 0, 1) := by decide +kernel
theorem d_y_put_11 : decode M_y_put.2.1 11 = .ok (.getfield 11, 3) := by decide +kernel
theorem d_y_put_14 : decode M_y_put.2.1 14 = .ok (.aload_n 0, 1) := by decide +kernel
theorem d_y_put_15 : decode M_y_put.2.1 15 = .ok (.getfield 15, 3) := by decide +kernel
theorem d_y_put_18 : decode M_y_put.2.1 18 = .ok (.iload_n 1, 1) := by decide +kernel
theorem d_y_put_19 : decode M_y_put.2.1 19 = .ok (.iastore, 1) := by decide +kernel
theorem d_y_put_20 : decode M_y_put.2.1 20 = .ok (.aload_n 0, 1) := by decide +kernel
theorem d_y_put_21 : decode M_y_put.2.1 21 = .ok (.dup, 1) := by decide +kernel
theorem d_y_put_22 : decode M_y_put.2.1 22 = .ok (.getfield 15, 3) := by decide +kernel
theorem d_y_put_25 : decode M_y_put.2.1 25 = .ok (.iconst 1, 1) := by decide +kernel
theorem d_y_put_26 : decode M_y_put.2.1 26 = .ok (.iadd, 1) := by decide +kernel
theorem d_y_put_27 : decode M_y_put.2.1 27 = .ok (.putfield 15, 3) := by decide +kernel
theorem d_y_put_30 : decode M_y_put.2.1 30 = .ok (.return_, 1) := by decide +kernel
theorem d_q_writeCentres_0 : decode M_q_writeCentres.2.1 0 = .ok (.iconst 0, 1) := by decide +kernel
theorem d_q_writeCentres_1 : decode M_q_writeCentres.2.1 1 = .ok (.istore_n 1, 1) := by decide +kernel
theorem d_q_writeCentres_2 : decode M_q_writeCentres.2.1 2 = .ok (.iload_n 1, 1) := by decide +kernel
theorem d_q_writeCentres_3 : decode M_q_writeCentres.2.1 3 = .ok (.aload_n 0, 1) := by decide +kernel
theorem d_q_writeCentres_4 : decode M_q_writeCentres.2.1 4 = .ok (.getfield 33, 3) := by decide +kernel
theorem d_q_writeCentres_7 : decode M_q_writeCentres.2.1 7 = .ok (.getfield 239, 3) := by decide +kernel
theorem d_q_writeCentres_10 : decode M_q_writeCentres.2.1 10 = .ok (.if_icmp .ge 44, 3) := by decide +kernel
theorem d_q_writeCentres_13 : decode M_q_writeCentres.2.1 13 = .ok (.iconst 0, 1) := by decide +kernel
theorem d_q_writeCentres_14 : decode M_q_writeCentres.2.1 14 = .ok (.istore_n 2, 1) := by decide +kernel
theorem d_q_writeCentres_15 : decode M_q_writeCentres.2.1 15 = .ok (.iload_n 2, 1) := by decide +kernel
theorem d_q_writeCentres_16 : decode M_q_writeCentres.2.1 16 = .ok (.iconst 4, 1) := by decide +kernel
theorem d_q_writeCentres_17 : decode M_q_writeCentres.2.1 17 = .ok (.if_icmp .ge 31, 3) := by decide +kernel
theorem d_q_writeCentres_20 : decode M_q_writeCentres.2.1 20 = .ok (.aload_n 0, 1) := by decide +kernel
theorem d_q_writeCentres_21 : decode M_q_writeCentres.2.1 21 = .ok (.getfield 54, 3) := by decide +kernel
theorem d_q_writeCentres_24 : decode M_q_writeCentres.2.1 24 = .ok (.aload_n 0, 1) := by decide +kernel
theorem d_q_writeCentres_25 : decode M_q_writeCentres.2.1 25 = .ok (.getfield 33, 3) := by decide +kernel
theorem d_q_writeCentres_28 : decode M_q_writeCentres.2.1 28 = .ok (.getfield 111, 3) := by decide +kernel
theorem d_q_writeCentres_31 : decode M_q_writeCentres.2.1 31 = .ok (.iload_n 1, 1) := by decide +kernel
theorem d_q_writeCentres_32 : decode M_q_writeCentres.2.1 32 = .ok (.aaload, 1) := by decide +kernel
theorem d_q_writeCentres_33 : decode M_q_writeCentres.2.1 33 = .ok (.iload_n 2, 1) := by decide +kernel
theorem d_q_writeCentres_34 : decode M_q_writeCentres.2.1 34 = .ok (.iaload, 1) := by decide +kernel
theorem d_q_writeCentres_35 : decode M_q_writeCentres.2.1 35 = .ok (.sipush 300, 3) := by decide +kernel
theorem d_q_writeCentres_38 : decode M_q_writeCentres.2.1 38 = .ok (.iadd, 1) := by decide +kernel
theorem d_q_writeCentres_39 : decode M_q_writeCentres.2.1 39 = .ok (.invokevirtual 294, 3) := by decide +kernel
theorem d_q_writeCentres_42 : decode M_q_writeCentres.2.1 42 = .ok (.iinc 2 1, 3) := by decide +kernel
theorem d_q_writeCentres_45 : decode M_q_writeCentres.2.1 45 = .ok (.goto (-30), 3) := by decide +kernel
theorem d_q_writeCentres_48 : decode M_q_writeCentres.2.1 48 = .ok (.iinc 1 1, 3) := by decide +kernel
theorem d_q_writeCentres_51 : decode M_q_writeCentres.2.1 51 = .ok (.goto (-49), 3) := by decide +kernel
theorem d_q_writeCentres_54 : decode M_q_writeCentres.2.1 54 = .ok (.return_, 1) := by decide +kernel
theorem d_y_putPair_0 : decode M_y_putPair.2.1 0 = .ok (.aload_n 0, 1) := by decide +kernel
theorem d_y_putPair_1 : decode M_y_putPair.2.1 1 = .ok (.iload_n 1, 1) := by decide +kernel
theorem d_y_putPair_2 : decode M_y_putPair.2.1 2 = .ok (.sipush 256, 3) := by decide +kernel
theorem d_y_putPair_5 : decode M_y_putPair.2.1 5 = .ok (.idiv, 1) := by decide +kernel
theorem d_y_putPair_6 : decode M_y_putPair.2.1 6 = .ok (.invokevirtual 19, 3) := by decide +kernel
theorem d_y_putPair_9 : decode M_y_putPair.2.1 9 = .ok (.aload_n 0, 1) := by decide +kernel
theorem d_y_putPair_10 : decode M_y_putPair.2.1 10 = .ok (.iload_n 1, 1) := by decide +kernel
theorem d_y_putPair_11 : decode M_y_putPair.2.1 11 = .ok (.sipush 256, 3) := by decide +kernel
theorem d_y_putPair_14 : decode M_y_putPair.2.1 14 = .ok (.irem, 1) := by decide +kernel
theorem d_y_putPair_15 : decode M_y_putPair.2.1 15 = .ok (.invokevirtual 19, 3) := by decide +kernel
theorem d_y_putPair_18 : decode M_y_putPair.2.1 18 = .ok (.return_, 1) := by decide +kernel
theorem d_q_writeWords_0 : decode M_q_writeWords.2.1 0 = .ok (.iconst 0, 1) := by decide +kernel
theorem d_q_writeWords_1 : decode M_q_writeWords.2.1 1 = .ok (.istore_n 1, 1) := by decide +kernel
theorem d_q_writeWords_2 : decode M_q_writeWords.2.1 2 = .ok (.iload_n 1, 1) := by decide +kernel
theorem d_q_writeWords_3 : decode M_q_writeWords.2.1 3 = .ok (.aload_n 0, 1) := by decide +kernel
theorem d_q_writeWords_4 : decode M_q_writeWords.2.1 4 = .ok (.getfield 33, 3) := by decide +kernel
theorem d_q_writeWords_7 : decode M_q_writeWords.2.1 7 = .ok (.getfield 118, 3) := by decide +kernel
theorem d_q_writeWords_10 : decode M_q_writeWords.2.1 10 = .ok (.invokestatic 257, 3) := by decide +kernel
theorem d_q_writeWords_13 : decode M_q_writeWords.2.1 13 = .ok (.if_icmp .ge 76, 3) := by decide +kernel
theorem d_q_writeWords_16 : decode M_q_writeWords.2.1 16 = .ok (.iconst 0, 1) := by decide +kernel
theorem d_q_writeWords_17 : decode M_q_writeWords.2.1 17 = .ok (.istore_n 2, 1) := by decide +kernel
theorem d_q_writeWords_18 : decode M_q_writeWords.2.1 18 = .ok (.iload_n 2, 1) := by decide +kernel
theorem d_q_writeWords_19 : decode M_q_writeWords.2.1 19 = .ok (.aload_n 0, 1) := by decide +kernel
theorem d_q_writeWords_20 : decode M_q_writeWords.2.1 20 = .ok (.getfield 33, 3) := by decide +kernel
theorem d_q_writeWords_23 : decode M_q_writeWords.2.1 23 = .ok (.getfield 260, 3) := by decide +kernel
theorem d_q_writeWords_26 : decode M_q_writeWords.2.1 26 = .ok (.if_icmp .ge 57, 3) := by decide +kernel
theorem d_q_writeWords_29 : decode M_q_writeWords.2.1 29 = .ok (.iconst 0, 1) := by decide +kernel
theorem d_q_writeWords_30 : decode M_q_writeWords.2.1 30 = .ok (.istore_n 3, 1) := by decide +kernel
theorem d_q_writeWords_31 : decode M_q_writeWords.2.1 31 = .ok (.iload_n 3, 1) := by decide +kernel
theorem d_q_writeWords_32 : decode M_q_writeWords.2.1 32 = .ok (.aload_n 0, 1) := by decide +kernel
theorem d_q_writeWords_33 : decode M_q_writeWords.2.1 33 = .ok (.getfield 33, 3) := by decide +kernel
theorem d_q_writeWords_36 : decode M_q_writeWords.2.1 36 = .ok (.getfield 118, 3) := by decide +kernel
theorem d_q_writeWords_39 : decode M_q_writeWords.2.1 39 = .ok (.invokestatic 121, 3) := by decide +kernel
theorem d_q_writeWords_42 : decode M_q_writeWords.2.1 42 = .ok (.if_icmp .ge 35, 3) := by decide +kernel
theorem d_q_writeWords_45 : decode M_q_writeWords.2.1 45 = .ok (.aload_n 0, 1) := by decide +kernel
theorem d_q_writeWords_46 : decode M_q_writeWords.2.1 46 = .ok (.getfield 54, 3) := by decide +kernel
theorem d_q_writeWords_49 : decode M_q_writeWords.2.1 49 = .ok (.aload_n 0, 1) := by decide +kernel
theorem d_q_writeWords_50 : decode M_q_writeWords.2.1 50 = .ok (.getfield 33, 3) := by decide +kernel
theorem d_q_writeWords_53 : decode M_q_writeWords.2.1 53 = .ok (.getfield 125, 3) := by decide +kernel
theorem d_q_writeWords_56 : decode M_q_writeWords.2.1 56 = .ok (.iload_n 1, 1) := by decide +kernel
theorem d_q_writeWords_57 : decode M_q_writeWords.2.1 57 = .ok (.iload_n 2, 1) := by decide +kernel
theorem d_q_writeWords_58 : decode M_q_writeWords.2.1 58 = .ok (.invokestatic 128, 3) := by decide +kernel
theorem d_q_writeWords_61 : decode M_q_writeWords.2.1 61 = .ok (.aaload, 1) := by decide +kernel
theorem d_q_writeWords_62 : decode M_q_writeWords.2.1 62 = .ok (.iload_n 3, 1) := by decide +kernel
theorem d_q_writeWords_63 : decode M_q_writeWords.2.1 63 = .ok (.iaload, 1) := by decide +kernel
theorem d_q_writeWords_64 : decode M_q_writeWords.2.1 64 = .ok (.sipush 300, 3) := by decide +kernel
theorem d_q_writeWords_67 : decode M_q_writeWords.2.1 67 = .ok (.iadd, 1) := by decide +kernel
theorem d_q_writeWords_68 : decode M_q_writeWords.2.1 68 = .ok (.invokevirtual 294, 3) := by decide +kernel
theorem d_q_writeWords_71 : decode M_q_writeWords.2.1 71 = .ok (.iinc 3 1, 3) := by decide +kernel
theorem d_q_writeWords_74 : decode M_q_writeWords.2.1 74 = .ok (.goto (-43), 3) := by decide +kernel
theorem d_q_writeWords_77 : decode M_q_writeWords.2.1 77 = .ok (.iinc 2 1, 3) := by decide +kernel
theorem d_q_writeWords_80 : decode M_q_writeWords.2.1 80 = .ok (.goto (-62), 3) := by decide +kernel
theorem d_q_writeWords_83 : decode M_q_writeWords.2.1 83 = .ok (.iinc 1 1, 3) := by decide +kernel
theorem d_q_writeWords_86 : decode M_q_writeWords.2.1 86 = .ok (.goto (-84), 3) := by decide +kernel
theorem d_q_writeWords_89 : decode M_q_writeWords.2.1 89 = .ok (.return_, 1) := by decide +kernel
theorem d_q_writeEntries_0 : decode M_q_writeEntries.2.1 0 = .ok (.iconst 0, 1) := by decide +kernel
theorem d_q_writeEntries_1 : decode M_q_writeEntries.2.1 1 = .ok (.istore_n 1, 1) := by decide +kernel
theorem d_q_writeEntries_2 : decode M_q_writeEntries.2.1 2 = .ok (.iload_n 1, 1) := by decide +kernel
theorem d_q_writeEntries_3 : decode M_q_writeEntries.2.1 3 = .ok (.aload_n 0, 1) := by decide +kernel
theorem d_q_writeEntries_4 : decode M_q_writeEntries.2.1 4 = .ok (.getfield 40, 3) := by decide +kernel
theorem d_q_writeEntries_7 : decode M_q_writeEntries.2.1 7 = .ok (.getfield 85, 3) := by decide +kernel
theorem d_q_writeEntries_10 : decode M_q_writeEntries.2.1 10 = .ok (.if_icmp .ge 59, 3) := by decide +kernel
theorem d_q_writeEntries_13 : decode M_q_writeEntries.2.1 13 = .ok (.aload_n 0, 1) := by decide +kernel
theorem d_q_writeEntries_14 : decode M_q_writeEntries.2.1 14 = .ok (.getfield 40, 3) := by decide +kernel
theorem d_q_writeEntries_17 : decode M_q_writeEntries.2.1 17 = .ok (.getfield 142, 3) := by decide +kernel
theorem d_q_writeEntries_20 : decode M_q_writeEntries.2.1 20 = .ok (.iload_n 1, 1) := by decide +kernel
theorem d_q_writeEntries_21 : decode M_q_writeEntries.2.1 21 = .ok (.aaload, 1) := by decide +kernel
theorem d_q_writeEntries_22 : decode M_q_writeEntries.2.1 22 = .ok (.astore_n 2, 1) := by decide +kernel
theorem d_q_writeEntries_23 : decode M_q_writeEntries.2.1 23 = .ok (.aload_n 0, 1) := by decide +kernel
theorem d_q_writeEntries_24 : decode M_q_writeEntries.2.1 24 = .ok (.getfield 54, 3) := by decide +kernel
theorem d_q_writeEntries_27 : decode M_q_writeEntries.2.1 27 = .ok (.aload_n 2, 1) := by decide +kernel
theorem d_q_writeEntries_28 : decode M_q_writeEntries.2.1 28 = .ok (.getfield 297, 3) := by decide +kernel
theorem d_q_writeEntries_31 : decode M_q_writeEntries.2.1 31 = .ok (.invokevirtual 294, 3) := by decide +kernel
theorem d_q_writeEntries_34 : decode M_q_writeEntries.2.1 34 = .ok (.iconst 0, 1) := by decide +kernel
theorem d_q_writeEntries_35 : decode M_q_writeEntries.2.1 35 = .ok (.istore_n 3, 1) := by decide +kernel
theorem d_q_writeEntries_36 : decode M_q_writeEntries.2.1 36 = .ok (.iload_n 3, 1) := by decide +kernel
theorem d_q_writeEntries_37 : decode M_q_writeEntries.2.1 37 = .ok (.iconst 4, 1) := by decide +kernel
theorem d_q_writeEntries_38 : decode M_q_writeEntries.2.1 38 = .ok (.if_icmp .ge 25, 3) := by decide +kernel
theorem d_q_writeEntries_41 : decode M_q_writeEntries.2.1 41 = .ok (.aload_n 0, 1) := by decide +kernel
theorem d_q_writeEntries_42 : decode M_q_writeEntries.2.1 42 = .ok (.getfield 54, 3) := by decide +kernel
theorem d_q_writeEntries_45 : decode M_q_writeEntries.2.1 45 = .ok (.aload_n 2, 1) := by decide +kernel
theorem d_q_writeEntries_46 : decode M_q_writeEntries.2.1 46 = .ok (.getfield 283, 3) := by decide +kernel
theorem d_q_writeEntries_49 : decode M_q_writeEntries.2.1 49 = .ok (.iload_n 3, 1) := by decide +kernel
theorem d_q_writeEntries_50 : decode M_q_writeEntries.2.1 50 = .ok (.iaload, 1) := by decide +kernel
theorem d_q_writeEntries_51 : decode M_q_writeEntries.2.1 51 = .ok (.bipush 100, 2) := by decide +kernel
theorem d_q_writeEntries_53 : decode M_q_writeEntries.2.1 53 = .ok (.iadd, 1) := by decide +kernel
theorem d_q_writeEntries_54 : decode M_q_writeEntries.2.1 54 = .ok (.invokevirtual 212, 3) := by decide +kernel
theorem d_q_writeEntries_57 : decode M_q_writeEntries.2.1 57 = .ok (.iinc 3 1, 3) := by decide +kernel
theorem d_q_writeEntries_60 : decode M_q_writeEntries.2.1 60 = .ok (.goto (-24), 3) := by decide +kernel
theorem d_q_writeEntries_63 : decode M_q_writeEntries.2.1 63 = .ok (.iinc 1 1, 3) := by decide +kernel
theorem d_q_writeEntries_66 : decode M_q_writeEntries.2.1 66 = .ok (.goto (-64), 3) := by decide +kernel
theorem d_q_writeEntries_69 : decode M_q_writeEntries.2.1 69 = .ok (.return_, 1) := by decide +kernel
theorem d_y_checkOf_0 : decode M_y_checkOf.2.1 0 = .ok (.iconst 0, 1) := by decide +kernel
theorem d_y_checkOf_1 : decode M_y_checkOf.2.1 1 = .ok (.istore_n 2, 1) := by decide +kernel
theorem d_y_checkOf_2 : decode M_y_checkOf.2.1 2 = .ok (.iconst 0, 1) := by decide +kernel
theorem d_y_checkOf_3 : decode M_y_checkOf.2.1 3 = .ok (.istore_n 3, 1) := by decide +kernel
theorem d_y_checkOf_4 : decode M_y_checkOf.2.1 4 = .ok (.iload_n 3, 1) := by decide +kernel
theorem d_y_checkOf_5 : decode M_y_checkOf.2.1 5 = .ok (.iload_n 1, 1) := by decide +kernel
theorem d_y_checkOf_6 : decode M_y_checkOf.2.1 6 = .ok (.if_icmp .ge 22, 3) := by decide +kernel
theorem d_y_checkOf_9 : decode M_y_checkOf.2.1 9 = .ok (.iload_n 2, 1) := by decide +kernel
theorem d_y_checkOf_10 : decode M_y_checkOf.2.1 10 = .ok (.aload_n 0, 1) := by decide +kernel
theorem d_y_checkOf_11 : decode M_y_checkOf.2.1 11 = .ok (.getfield 11, 3) := by decide +kernel
theorem d_y_checkOf_14 : decode M_y_checkOf.2.1 14 = .ok (.iload_n 3, 1) := by decide +kernel
theorem d_y_checkOf_15 : decode M_y_checkOf.2.1 15 = .ok (.iaload, 1) := by decide +kernel
theorem d_y_checkOf_16 : decode M_y_checkOf.2.1 16 = .ok (.iload_n 3, 1) := by decide +kernel
theorem d_y_checkOf_17 : decode M_y_checkOf.2.1 17 = .ok (.iconst 1, 1) := by decide +kernel
theorem d_y_checkOf_18 : decode M_y_checkOf.2.1 18 = .ok (.iadd, 1) := by decide +kernel
theorem d_y_checkOf_19 : decode M_y_checkOf.2.1 19 = .ok (.imul, 1) := by decide +kernel
theorem d_y_checkOf_20 : decode M_y_checkOf.2.1 20 = .ok (.iadd, 1) := by decide +kernel
theorem d_y_checkOf_21 : decode M_y_checkOf.2.1 21 = .ok (.istore_n 2, 1) := by decide +kernel
theorem d_y_checkOf_22 : decode M_y_checkOf.2.1 22 = .ok (.iinc 3 1, 3) := by decide +kernel
theorem d_y_checkOf_25 : decode M_y_checkOf.2.1 25 = .ok (.goto (-21), 3) := by decide +kernel
theorem d_y_checkOf_28 : decode M_y_checkOf.2.1 28 = .ok (.iload_n 2, 1) := by decide +kernel
theorem d_y_checkOf_29 : decode M_y_checkOf.2.1 29 = .ok (.sipush 251, 3) := by decide +kernel
theorem d_y_checkOf_32 : decode M_y_checkOf.2.1 32 = .ok (.irem, 1) := by decide +kernel
theorem d_y_checkOf_33 : decode M_y_checkOf.2.1 33 = .ok (.ireturn, 1) := by decide +kernel
theorem d_q_alter_0 : decode M_q_alter.2.1 0 = .ok (.iload_n 1, 1) := by decide +kernel
theorem d_q_alter_1 : decode M_q_alter.2.1 1 = .ok (.iconst 0, 1) := by decide +kernel
theorem d_q_alter_2 : decode M_q_alter.2.1 2 = .ok (.aload_n 0, 1) := by decide +kernel
theorem d_q_alter_3 : decode M_q_alter.2.1 3 = .ok (.getfield 54, 3) := by decide +kernel
theorem d_q_alter_6 : decode M_q_alter.2.1 6 = .ok (.getfield 194, 3) := by decide +kernel
theorem d_q_alter_9 : decode M_q_alter.2.1 9 = .ok (.invokestatic 86, 3) := by decide +kernel
theorem d_q_alter_12 : decode M_q_alter.2.1 12 = .ok (.ifCond .eq 21, 3) := by decide +kernel
theorem d_q_alter_15 : decode M_q_alter.2.1 15 = .ok (.iload_n 1, 1) := by decide +kernel
theorem d_q_alter_16 : decode M_q_alter.2.1 16 = .ok (.sipush 250, 3) := by decide +kernel
theorem d_q_alter_19 : decode M_q_alter.2.1 19 = .ok (.if_icmp .ge 14, 3) := by decide +kernel
theorem d_q_alter_22 : decode M_q_alter.2.1 22 = .ok (.iload_n 2, 1) := by decide +kernel
theorem d_q_alter_23 : decode M_q_alter.2.1 23 = .ok (.iconst 0, 1) := by decide +kernel
theorem d_q_alter_24 : decode M_q_alter.2.1 24 = .ok (.sipush 255, 3) := by decide +kernel
theorem d_q_alter_27 : decode M_q_alter.2.1 27 = .ok (.invokestatic 86, 3) := by decide +kernel
theorem d_q_alter_30 : decode M_q_alter.2.1 30 = .ok (.ifCond .ne 5, 3) := by decide +kernel
theorem d_q_alter_33 : decode M_q_alter.2.1 33 = .ok (.iconst 0, 1) := by decide +kernel
theorem d_q_alter_34 : decode M_q_alter.2.1 34 = .ok (.ireturn, 1) := by decide +kernel
theorem d_q_alter_35 : decode M_q_alter.2.1 35 = .ok (.aload_n 0, 1) := by decide +kernel
theorem d_q_alter_36 : decode M_q_alter.2.1 36 = .ok (.getfield 54, 3) := by decide +kernel
theorem d_q_alter_39 : decode M_q_alter.2.1 39 = .ok (.getfield 215, 3) := by decide +kernel
theorem d_q_alter_42 : decode M_q_alter.2.1 42 = .ok (.iload_n 1, 1) := by decide +kernel
theorem d_q_alter_43 : decode M_q_alter.2.1 43 = .ok (.iload_n 2, 1) := by decide +kernel
theorem d_q_alter_44 : decode M_q_alter.2.1 44 = .ok (.iastore, 1) := by decide +kernel
theorem d_q_alter_45 : decode M_q_alter.2.1 45 = .ok (.iload_n 1, 1) := by decide +kernel
theorem d_q_alter_46 : decode M_q_alter.2.1 46 = .ok (.aload_n 0, 1) := by decide +kernel
theorem d_q_alter_47 : decode M_q_alter.2.1 47 = .ok (.getfield 54, 3) := by decide +kernel
theorem d_q_alter_50 : decode M_q_alter.2.1 50 = .ok (.getfield 194, 3) := by decide +kernel
theorem d_q_alter_53 : decode M_q_alter.2.1 53 = .ok (.if_icmp .ne 16, 3) := by decide +kernel
theorem d_q_alter_56 : decode M_q_alter.2.1 56 = .ok (.aload_n 0, 1) := by decide +kernel
theorem d_q_alter_57 : decode M_q_alter.2.1 57 = .ok (.getfield 54, 3) := by decide +kernel
theorem d_q_alter_60 : decode M_q_alter.2.1 60 = .ok (.dup, 1) := by decide +kernel
theorem d_q_alter_61 : decode M_q_alter.2.1 61 = .ok (.getfield 194, 3) := by decide +kernel
theorem d_q_alter_64 : decode M_q_alter.2.1 64 = .ok (.iconst 1, 1) := by decide +kernel
theorem d_q_alter_65 : decode M_q_alter.2.1 65 = .ok (.iadd, 1) := by decide +kernel
theorem d_q_alter_66 : decode M_q_alter.2.1 66 = .ok (.putfield 194, 3) := by decide +kernel
theorem d_q_alter_69 : decode M_q_alter.2.1 69 = .ok (.iconst 1, 1) := by decide +kernel
theorem d_q_alter_70 : decode M_q_alter.2.1 70 = .ok (.ireturn, 1) := by decide +kernel
theorem d_q_cut_0 : decode M_q_cut.2.1 0 = .ok (.iload_n 1, 1) := by decide +kernel
theorem d_q_cut_1 : decode M_q_cut.2.1 1 = .ok (.iconst 0, 1) := by decide +kernel
theorem d_q_cut_2 : decode M_q_cut.2.1 2 = .ok (.aload_n 0, 1) := by decide +kernel
theorem d_q_cut_3 : decode M_q_cut.2.1 3 = .ok (.getfield 54, 3) := by decide +kernel
theorem d_q_cut_6 : decode M_q_cut.2.1 6 = .ok (.getfield 194, 3) := by decide +kernel
theorem d_q_cut_9 : decode M_q_cut.2.1 9 = .ok (.invokestatic 86, 3) := by decide +kernel
theorem d_q_cut_12 : decode M_q_cut.2.1 12 = .ok (.ifCond .ne 5, 3) := by decide +kernel
theorem d_q_cut_15 : decode M_q_cut.2.1 15 = .ok (.iconst 0, 1) := by decide +kernel
theorem d_q_cut_16 : decode M_q_cut.2.1 16 = .ok (.ireturn, 1) := by decide +kernel
theorem d_q_cut_17 : decode M_q_cut.2.1 17 = .ok (.aload_n 0, 1) := by decide +kernel
theorem d_q_cut_18 : decode M_q_cut.2.1 18 = .ok (.getfield 54, 3) := by decide +kernel
theorem d_q_cut_21 : decode M_q_cut.2.1 21 = .ok (.iload_n 1, 1) := by decide +kernel
theorem d_q_cut_22 : decode M_q_cut.2.1 22 = .ok (.putfield 194, 3) := by decide +kernel
theorem d_q_cut_25 : decode M_q_cut.2.1 25 = .ok (.iconst 1, 1) := by decide +kernel
theorem d_q_cut_26 : decode M_q_cut.2.1 26 = .ok (.ireturn, 1) := by decide +kernel
theorem d_q_byteAt_0 : decode M_q_byteAt.2.1 0 = .ok (.iload_n 1, 1) := by decide +kernel
theorem d_q_byteAt_1 : decode M_q_byteAt.2.1 1 = .ok (.iconst 0, 1) := by decide +kernel
theorem d_q_byteAt_2 : decode M_q_byteAt.2.1 2 = .ok (.aload_n 0, 1) := by decide +kernel
theorem d_q_byteAt_3 : decode M_q_byteAt.2.1 3 = .ok (.getfield 54, 3) := by decide +kernel
theorem d_q_byteAt_6 : decode M_q_byteAt.2.1 6 = .ok (.getfield 194, 3) := by decide +kernel
theorem d_q_byteAt_9 : decode M_q_byteAt.2.1 9 = .ok (.iconst 1, 1) := by decide +kernel
theorem d_q_byteAt_10 : decode M_q_byteAt.2.1 10 = .ok (.isub, 1) := by decide +kernel
theorem d_q_byteAt_11 : decode M_q_byteAt.2.1 11 = .ok (.invokestatic 86, 3) := by decide +kernel
theorem d_q_byteAt_14 : decode M_q_byteAt.2.1 14 = .ok (.ifCond .eq 15, 3) := by decide +kernel
theorem d_q_byteAt_17 : decode M_q_byteAt.2.1 17 = .ok (.aload_n 0, 1) := by decide +kernel
theorem d_q_byteAt_18 : decode M_q_byteAt.2.1 18 = .ok (.getfield 54, 3) := by decide +kernel
theorem d_q_byteAt_21 : decode M_q_byteAt.2.1 21 = .ok (.getfield 215, 3) := by decide +kernel
theorem d_q_byteAt_24 : decode M_q_byteAt.2.1 24 = .ok (.iload_n 1, 1) := by decide +kernel
theorem d_q_byteAt_25 : decode M_q_byteAt.2.1 25 = .ok (.iaload, 1) := by decide +kernel
theorem d_q_byteAt_26 : decode M_q_byteAt.2.1 26 = .ok (.goto 4, 3) := by decide +kernel
theorem d_q_byteAt_29 : decode M_q_byteAt.2.1 29 = .ok (.iconst (-1), 1) := by decide +kernel
theorem d_q_byteAt_30 : decode M_q_byteAt.2.1 30 = .ok (.ireturn, 1) := by decide +kernel
theorem d_q_load_0 : decode M_q_load.2.1 0 = .ok (.aload_n 0, 1) := by decide +kernel
theorem d_q_load_1 : decode M_q_load.2.1 1 = .ok (.getfield 54, 3) := by decide +kernel
theorem d_q_load_4 : decode M_q_load.2.1 4 = .ok (.invokevirtual 218, 3) := by decide +kernel
theorem d_q_load_7 : decode M_q_load.2.1 7 = .ok (.istore_n 1, 1) := by decide +kernel
theorem d_q_load_8 : decode M_q_load.2.1 8 = .ok (.iload_n 1, 1) := by decide +kernel
theorem d_q_load_9 : decode M_q_load.2.1 9 = .ok (.ifCond .eq 5, 3) := by decide +kernel
theorem d_q_load_12 : decode M_q_load.2.1 12 = .ok (.iload_n 1, 1) := by decide +kernel
theorem d_q_load_13 : decode M_q_load.2.1 13 = .ok (.ireturn, 1) := by decide +kernel
theorem d_q_load_14 : decode M_q_load.2.1 14 = .ok (.aload_n 0, 1) := by decide +kernel
theorem d_q_load_15 : decode M_q_load.2.1 15 = .ok (.invokevirtual 221, 3) := by decide +kernel
theorem d_q_load_18 : decode M_q_load.2.1 18 = .ok (.aload_n 0, 1) := by decide +kernel
theorem d_q_load_19 : decode M_q_load.2.1 19 = .ok (.invokevirtual 224, 3) := by decide +kernel
theorem d_q_load_22 : decode M_q_load.2.1 22 = .ok (.aload_n 0, 1) := by decide +kernel
theorem d_q_load_23 : decode M_q_load.2.1 23 = .ok (.invokevirtual 227, 3) := by decide +kernel
theorem d_q_load_26 : decode M_q_load.2.1 26 = .ok (.aload_n 0, 1) := by decide +kernel
theorem d_q_load_27 : decode M_q_load.2.1 27 = .ok (.invokevirtual 230, 3) := by decide +kernel
theorem d_q_load_30 : decode M_q_load.2.1 30 = .ok (.iconst 0, 1) := by decide +kernel
theorem d_q_load_31 : decode M_q_load.2.1 31 = .ok (.ireturn, 1) := by decide +kernel
theorem d_y_fault_0 : decode M_y_fault.2.1 0 = .ok (.aload_n 0, 1) := by decide +kernel
theorem d_y_fault_1 : decode M_y_fault.2.1 1 = .ok (.getfield 15, 3) := by decide +kernel
theorem d_y_fault_4 : decode M_y_fault.2.1 4 = .ok (.bipush 11, 2) := by decide +kernel
theorem d_y_fault_6 : decode M_y_fault.2.1 6 = .ok (.if_icmp .ge 5, 3) := by decide +kernel
theorem d_y_fault_9 : decode M_y_fault.2.1 9 = .ok (.iconst 1, 1) := by decide +kernel
theorem d_y_fault_10 : decode M_y_fault.2.1 10 = .ok (.ireturn, 1) := by decide +kernel
theorem d_y_fault_11 : decode M_y_fault.2.1 11 = .ok (.aload_n 0, 1) := by decide +kernel
theorem d_y_fault_12 : decode M_y_fault.2.1 12 = .ok (.getfield 11, 3) := by decide +kernel
theorem d_y_fault_15 : decode M_y_fault.2.1 15 = .ok (.iconst 0, 1) := by decide +kernel
theorem d_y_fault_16 : decode M_y_fault.2.1 16 = .ok (.iaload, 1) := by decide +kernel
theorem d_y_fault_17 : decode M_y_fault.2.1 17 = .ok (.bipush 86, 2) := by decide +kernel
