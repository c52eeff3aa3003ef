theorem d_q_turn_0 : decode M_q_turn.2.1 0 = .ok (.iload_n 1, 1) := by decide +kernel
theorem d_q_turn_1 : decode M_q_turn.2.1 1 = .ok (.iload_n 2, 1) := by decide +kernel
theorem d_q_turn_2 : decode M_q_turn.2.1 2 = .ok (.iload_n 3, 1) := by decide +kernel
theorem d_q_turn_3 : decode M_q_turn.2.1 3 = .ok (.iload 4, 2) := by decide +kernel
theorem d_q_turn_5 : decode M_q_turn.2.1 5 = .ok (.invokestatic 58, 3) := by decide +kernel
theorem d_q_turn_8 : decode M_q_turn.2.1 8 = .ok (.ifCond .eq 13, 3) := by decide +kernel
theorem d_q_turn_11 : decode M_q_turn.2.1 11 = .ok (.aload_n 0, 1) := by decide +kernel
theorem d_q_turn_12 : decode M_q_turn.2.1 12 = .ok (.getfield 33, 3) := by decide +kernel
theorem d_q_turn_15 : decode M_q_turn.2.1 15 = .ok (.getfield 62, 3) := by decide +kernel
theorem d_q_turn_18 : decode M_q_turn.2.1 18 = .ok (.ifCond .eq 5, 3) := by decide +kernel
theorem d_q_turn_21 : decode M_q_turn.2.1 21 = .ok (.iconst 0, 1) := by decide +kernel
theorem d_q_turn_22 : decode M_q_turn.2.1 22 = .ok (.ireturn, 1) := by decide +kernel
theorem d_q_turn_23 : decode M_q_turn.2.1 23 = .ok (.aload_n 0, 1) := by decide +kernel
theorem d_q_turn_24 : decode M_q_turn.2.1 24 = .ok (.getfield 10, 3) := by decide +kernel
theorem d_q_turn_27 : decode M_q_turn.2.1 27 = .ok (.iload_n 1, 1) := by decide +kernel
theorem d_q_turn_28 : decode M_q_turn.2.1 28 = .ok (.iload_n 2, 1) := by decide +kernel
theorem d_q_turn_29 : decode M_q_turn.2.1 29 = .ok (.iload_n 3, 1) := by decide +kernel
theorem d_q_turn_30 : decode M_q_turn.2.1 30 = .ok (.iload 4, 2) := by decide +kernel
theorem d_q_turn_32 : decode M_q_turn.2.1 32 = .ok (.invokevirtual 66, 3) := by decide +kernel
theorem d_q_turn_35 : decode M_q_turn.2.1 35 = .ok (.iconst 1, 1) := by decide +kernel
theorem d_q_turn_36 : decode M_q_turn.2.1 36 = .ok (.ireturn, 1) := by decide +kernel
theorem d_t_allows_0 : decode M_t_allows.2.1 0 = .ok (.iload_n 0, 1) := by decide +kernel
theorem d_t_allows_1 : decode M_t_allows.2.1 1 = .ok (.invokestatic 15, 3) := by decide +kernel
theorem d_t_allows_4 : decode M_t_allows.2.1 4 = .ok (.ifCond .eq 24, 3) := by decide +kernel
theorem d_t_allows_7 : decode M_t_allows.2.1 7 = .ok (.iload_n 1, 1) := by decide +kernel
theorem d_t_allows_8 : decode M_t_allows.2.1 8 = .ok (.invokestatic 15, 3) := by decide +kernel
theorem d_t_allows_11 : decode M_t_allows.2.1 11 = .ok (.ifCond .eq 17, 3) := by decide +kernel
theorem d_t_allows_14 : decode M_t_allows.2.1 14 = .ok (.iload_n 2, 1) := by decide +kernel
theorem d_t_allows_15 : decode M_t_allows.2.1 15 = .ok (.invokestatic 15, 3) := by decide +kernel
theorem d_t_allows_18 : decode M_t_allows.2.1 18 = .ok (.ifCond .eq 10, 3) := by decide +kernel
theorem d_t_allows_21 : decode M_t_allows.2.1 21 = .ok (.iload_n 3, 1) := by decide +kernel
theorem d_t_allows_22 : decode M_t_allows.2.1 22 = .ok (.invokestatic 15, 3) := by decide +kernel
theorem d_t_allows_25 : decode M_t_allows.2.1 25 = .ok (.ifCond .ne 5, 3) := by decide +kernel
theorem d_t_allows_28 : decode M_t_allows.2.1 28 = .ok (.iconst 0, 1) := by decide +kernel
theorem d_t_allows_29 : decode M_t_allows.2.1 29 = .ok (.ireturn, 1) := by decide +kernel
theorem d_t_allows_30 : decode M_t_allows.2.1 30 = .ok (.iload_n 0, 1) := by decide +kernel
theorem d_t_allows_31 : decode M_t_allows.2.1 31 = .ok (.invokestatic 19, 3) := by decide +kernel
theorem d_t_allows_34 : decode M_t_allows.2.1 34 = .ok (.iload_n 1, 1) := by decide +kernel
theorem d_t_allows_35 : decode M_t_allows.2.1 35 = .ok (.invokestatic 19, 3) := by decide +kernel
theorem d_t_allows_38 : decode M_t_allows.2.1 38 = .ok (.ior, 1) := by decide +kernel
theorem d_t_allows_39 : decode M_t_allows.2.1 39 = .ok (.iload_n 2, 1) := by decide +kernel
theorem d_t_allows_40 : decode M_t_allows.2.1 40 = .ok (.invokestatic 19, 3) := by decide +kernel
theorem d_t_allows_43 : decode M_t_allows.2.1 43 = .ok (.ior, 1) := by decide +kernel
theorem d_t_allows_44 : decode M_t_allows.2.1 44 = .ok (.iload_n 3, 1) := by decide +kernel
theorem d_t_allows_45 : decode M_t_allows.2.1 45 = .ok (.invokestatic 19, 3) := by decide +kernel
theorem d_t_allows_48 : decode M_t_allows.2.1 48 = .ok (.ior, 1) := by decide +kernel
theorem d_t_allows_49 : decode M_t_allows.2.1 49 = .ok (.bipush 30, 2) := by decide +kernel
theorem d_t_allows_51 : decode M_t_allows.2.1 51 = .ok (.if_icmp .ne 7, 3) := by decide +kernel
theorem d_t_allows_54 : decode M_t_allows.2.1 54 = .ok (.iconst 1, 1) := by decide +kernel
theorem d_t_allows_55 : decode M_t_allows.2.1 55 = .ok (.goto 4, 3) := by decide +kernel
theorem d_t_allows_58 : decode M_t_allows.2.1 58 = .ok (.iconst 0, 1) := by decide +kernel
theorem d_t_allows_59 : decode M_t_allows.2.1 59 = .ok (.ireturn, 1) := by decide +kernel
theorem d_t_isStep_0 : decode M_t_isStep.2.1 0 = .ok (.iload_n 0, 1) := by decide +kernel
theorem d_t_isStep_1 : decode M_t_isStep.2.1 1 = .ok (.ifCond .eq 17, 3) := by decide +kernel
theorem d_t_isStep_4 : decode M_t_isStep.2.1 4 = .ok (.iload_n 0, 1) := by decide +kernel
theorem d_t_isStep_5 : decode M_t_isStep.2.1 5 = .ok (.bipush (-4), 2) := by decide +kernel
theorem d_t_isStep_7 : decode M_t_isStep.2.1 7 = .ok (.iconst 4, 1) := by decide +kernel
theorem d_t_isStep_8 : decode M_t_isStep.2.1 8 = .ok (.invokestatic 23, 3) := by decide +kernel
theorem d_t_isStep_11 : decode M_t_isStep.2.1 11 = .ok (.ifCond .eq 7, 3) := by decide +kernel
theorem d_t_isStep_14 : decode M_t_isStep.2.1 14 = .ok (.iconst 1, 1) := by decide +kernel
theorem d_t_isStep_15 : decode M_t_isStep.2.1 15 = .ok (.goto 4, 3) := by decide +kernel
theorem d_t_isStep_18 : decode M_t_isStep.2.1 18 = .ok (.iconst 0, 1) := by decide +kernel
theorem d_t_isStep_19 : decode M_t_isStep.2.1 19 = .ok (.ireturn, 1) := by decide +kernel
theorem d_q_isWithin_0 : decode M_q_isWithin.2.1 0 = .ok (.iload_n 0, 1) := by decide +kernel
theorem d_q_isWithin_1 : decode M_q_isWithin.2.1 1 = .ok (.iload_n 1, 1) := by decide +kernel
theorem d_q_isWithin_2 : decode M_q_isWithin.2.1 2 = .ok (.if_icmp .lt 12, 3) := by decide +kernel
theorem d_q_isWithin_5 : decode M_q_isWithin.2.1 5 = .ok (.iload_n 0, 1) := by decide +kernel
theorem d_q_isWithin_6 : decode M_q_isWithin.2.1 6 = .ok (.iload_n 2, 1) := by decide +kernel
theorem d_q_isWithin_7 : decode M_q_isWithin.2.1 7 = .ok (.if_icmp .gt 7, 3) := by decide +kernel
theorem d_q_isWithin_10 : decode M_q_isWithin.2.1 10 = .ok (.iconst 1, 1) := by decide +kernel
theorem d_q_isWithin_11 : decode M_q_isWithin.2.1 11 = .ok (.goto 4, 3) := by decide +kernel
theorem d_q_isWithin_14 : decode M_q_isWithin.2.1 14 = .ok (.iconst 0, 1) := by decide +kernel
theorem d_q_isWithin_15 : decode M_q_isWithin.2.1 15 = .ok (.ireturn, 1) := by decide +kernel
theorem d_t_axisBit_0 : decode M_t_axisBit.2.1 0 = .ok (.iconst 1, 1) := by decide +kernel
theorem d_t_axisBit_1 : decode M_t_axisBit.2.1 1 = .ok (.iload_n 0, 1) := by decide +kernel
theorem d_t_axisBit_2 : decode M_t_axisBit.2.1 2 = .ok (.invokestatic 27, 3) := by decide +kernel
theorem d_t_axisBit_5 : decode M_t_axisBit.2.1 5 = .ok (.ishl, 1) := by decide +kernel
theorem d_t_axisBit_6 : decode M_t_axisBit.2.1 6 = .ok (.ireturn, 1) := by decide +kernel
theorem d_j_abs_0 : decode M_j_abs.2.1 0 = .ok (.iload_n 0, 1) := by decide +kernel
theorem d_j_abs_1 : decode M_j_abs.2.1 1 = .ok (.ifCond .ge 8, 3) := by decide +kernel
theorem d_j_abs_4 : decode M_j_abs.2.1 4 = .ok (.iload_n 0, 1) := by decide +kernel
theorem d_j_abs_5 : decode M_j_abs.2.1 5 = .ok (.ineg, 1) := by decide +kernel
theorem d_j_abs_6 : decode M_j_abs.2.1 6 = .ok (.goto 4, 3) := by decide +kernel
theorem d_j_abs_9 : decode M_j_abs.2.1 9 = .ok (.iload_n 0, 1) := by decide +kernel
theorem d_j_abs_10 : decode M_j_abs.2.1 10 = .ok (.ireturn, 1) := by decide +kernel
theorem d_t_become_0 : decode M_t_become.2.1 0 = .ok (.aload_n 0, 1) := by decide +kernel
theorem d_t_become_1 : decode M_t_become.2.1 1 = .ok (.getfield 9, 3) := by decide +kernel
theorem d_t_become_4 : decode M_t_become.2.1 4 = .ok (.iload_n 1, 1) := by decide +kernel
theorem d_t_become_5 : decode M_t_become.2.1 5 = .ok (.iload_n 2, 1) := by decide +kernel
theorem d_t_become_6 : decode M_t_become.2.1 6 = .ok (.iload_n 3, 1) := by decide +kernel
theorem d_t_become_7 : decode M_t_become.2.1 7 = .ok (.iload 4, 2) := by decide +kernel
theorem d_t_become_9 : decode M_t_become.2.1 9 = .ok (.invokestatic 32, 3) := by decide +kernel
theorem d_t_become_12 : decode M_t_become.2.1 12 = .ok (.return_, 1) := by decide +kernel
theorem d_q_setPoint_0 : decode M_q_setPoint.2.1 0 = .ok (.aload_n 0, 1) := by decide +kernel
theorem d_q_setPoint_1 : decode M_q_setPoint.2.1 1 = .ok (.iconst 0, 1) := by decide +kernel
theorem d_q_setPoint_2 : decode M_q_setPoint.2.1 2 = .ok (.iload_n 1, 1) := by decide +kernel
theorem d_q_setPoint_3 : decode M_q_setPoint.2.1 3 = .ok (.iastore, 1) := by decide +kernel
theorem d_q_setPoint_4 : decode M_q_setPoint.2.1 4 = .ok (.aload_n 0, 1) := by decide +kernel
theorem d_q_setPoint_5 : decode M_q_setPoint.2.1 5 = .ok (.iconst 1, 1) := by decide +kernel
theorem d_q_setPoint_6 : decode M_q_setPoint.2.1 6 = .ok (.iload_n 2, 1) := by decide +kernel
theorem d_q_setPoint_7 : decode M_q_setPoint.2.1 7 = .ok (.iastore, 1) := by decide +kernel
theorem d_q_setPoint_8 : decode M_q_setPoint.2.1 8 = .ok (.aload_n 0, 1) := by decide +kernel
theorem d_q_setPoint_9 : decode M_q_setPoint.2.1 9 = .ok (.iconst 2, 1) := by decide +kernel
theorem d_q_setPoint_10 : decode M_q_setPoint.2.1 10 = .ok (.iload_n 3, 1) := by decide +kernel
theorem d_q_setPoint_11 : decode M_q_setPoint.2.1 11 = .ok (.iastore, 1) := by decide +kernel
theorem d_q_setPoint_12 : decode M_q_setPoint.2.1 12 = .ok (.aload_n 0, 1) := by decide +kernel
theorem d_q_setPoint_13 : decode M_q_setPoint.2.1 13 = .ok (.iconst 3, 1) := by decide +kernel
theorem d_q_setPoint_14 : decode M_q_setPoint.2.1 14 = .ok (.iload 4, 2) := by decide +kernel
theorem d_q_setPoint_16 : decode M_q_setPoint.2.1 16 = .ok (.iastore, 1) := by decide +kernel
theorem d_q_setPoint_17 : decode M_q_setPoint.2.1 17 = .ok (.return_, 1) := by decide +kernel
theorem d_q_sample_0 : decode M_q_sample.2.1 0 = .ok (.iload_n 1, 1) := by decide +kernel
theorem d_q_sample_1 : decode M_q_sample.2.1 1 = .ok (.iload_n 2, 1) := by decide +kernel
theorem d_q_sample_2 : decode M_q_sample.2.1 2 = .ok (.iload_n 3, 1) := by decide +kernel
theorem d_q_sample_3 : decode M_q_sample.2.1 3 = .ok (.iload 4, 2) := by decide +kernel
theorem d_q_sample_5 : decode M_q_sample.2.1 5 = .ok (.invokestatic 70, 3) := by decide +kernel
theorem d_q_sample_8 : decode M_q_sample.2.1 8 = .ok (.ifCond .ne 15, 3) := by decide +kernel
theorem d_q_sample_11 : decode M_q_sample.2.1 11 = .ok (.aload_n 0, 1) := by decide +kernel
theorem d_q_sample_12 : decode M_q_sample.2.1 12 = .ok (.getfield 19, 3) := by decide +kernel
theorem d_q_sample_15 : decode M_q_sample.2.1 15 = .ok (.getfield 73, 3) := by decide +kernel
theorem d_q_sample_18 : decode M_q_sample.2.1 18 = .ok (.bipush 24, 2) := by decide +kernel
theorem d_q_sample_20 : decode M_q_sample.2.1 20 = .ok (.if_icmp .lt 5, 3) := by decide +kernel
theorem d_q_sample_23 : decode M_q_sample.2.1 23 = .ok (.iconst 0, 1) := by decide +kernel
theorem d_q_sample_24 : decode M_q_sample.2.1 24 = .ok (.ireturn, 1) := by decide +kernel
theorem d_q_sample_25 : decode M_q_sample.2.1 25 = .ok (.aload_n 0, 1) := by decide +kernel
theorem d_q_sample_26 : decode M_q_sample.2.1 26 = .ok (.getfield 19, 3) := by decide +kernel
theorem d_q_sample_29 : decode M_q_sample.2.1 29 = .ok (.getfield 77, 3) := by decide +kernel
theorem d_q_sample_32 : decode M_q_sample.2.1 32 = .ok (.aload_n 0, 1) := by decide +kernel
theorem d_q_sample_33 : decode M_q_sample.2.1 33 = .ok (.getfield 19, 3) := by decide +kernel
theorem d_q_sample_36 : decode M_q_sample.2.1 36 = .ok (.getfield 73, 3) := by decide +kernel
theorem d_q_sample_39 : decode M_q_sample.2.1 39 = .ok (.aaload, 1) := by decide +kernel
theorem d_q_sample_40 : decode M_q_sample.2.1 40 = .ok (.iload_n 1, 1) := by decide +kernel
theorem d_q_sample_41 : decode M_q_sample.2.1 41 = .ok (.iload_n 2, 1) := by decide +kernel
theorem d_q_sample_42 : decode M_q_sample.2.1 42 = .ok (.iload_n 3, 1) := by decide +kernel
theorem d_q_sample_43 : decode M_q_sample.2.1 43 = .ok (.iload 4, 2) := by decide +kernel
theorem d_q_sample_45 : decode M_q_sample.2.1 45 = .ok (.invokestatic 81, 3) := by decide +kernel
theorem d_q_sample_48 : decode M_q_sample.2.1 48 = .ok (.aload_n 0, 1) := by decide +kernel
theorem d_q_sample_49 : decode M_q_sample.2.1 49 = .ok (.getfield 19, 3) := by decide +kernel
theorem d_q_sample_52 : decode M_q_sample.2.1 52 = .ok (.dup, 1) := by decide +kernel
theorem d_q_sample_53 : decode M_q_sample.2.1 53 = .ok (.getfield 73, 3) := by decide +kernel
theorem d_q_sample_56 : decode M_q_sample.2.1 56 = .ok (.iconst 1, 1) := by decide +kernel
theorem d_q_sample_57 : decode M_q_sample.2.1 57 = .ok (.iadd, 1) := by decide +kernel
theorem d_q_sample_58 : decode M_q_sample.2.1 58 = .ok (.putfield 73, 3) := by decide +kernel
theorem d_q_sample_61 : decode M_q_sample.2.1 61 = .ok (.iconst 1, 1) := by decide +kernel
theorem d_q_sample_62 : decode M_q_sample.2.1 62 = .ok (.ireturn, 1) := by decide +kernel
theorem d_q_isBad_0 : decode M_q_isBad.2.1 0 = .ok (.iload_n 0, 1) := by decide +kernel
theorem d_q_isBad_1 : decode M_q_isBad.2.1 1 = .ok (.bipush (-100), 2) := by decide +kernel
theorem d_q_isBad_3 : decode M_q_isBad.2.1 3 = .ok (.bipush 100, 2) := by decide +kernel
theorem d_q_isBad_5 : decode M_q_isBad.2.1 5 = .ok (.invokestatic 86, 3) := by decide +kernel
theorem d_q_isBad_8 : decode M_q_isBad.2.1 8 = .ok (.ifCond .eq 36, 3) := by decide +kernel
theorem d_q_isBad_11 : decode M_q_isBad.2.1 11 = .ok (.iload_n 1, 1) := by decide +kernel
theorem d_q_isBad_12 : decode M_q_isBad.2.1 12 = .ok (.bipush (-100), 2) := by decide +kernel
theorem d_q_isBad_14 : decode M_q_isBad.2.1 14 = .ok (.bipush 100, 2) := by decide +kernel
theorem d_q_isBad_16 : decode M_q_isBad.2.1 16 = .ok (.invokestatic 86, 3) := by decide +kernel
theorem d_q_isBad_19 : decode M_q_isBad.2.1 19 = .ok (.ifCond .eq 25, 3) := by decide +kernel
theorem d_q_isBad_22 : decode M_q_isBad.2.1 22 = .ok (.iload_n 2, 1) := by decide +kernel
theorem d_q_isBad_23 : decode M_q_isBad.2.1 23 = .ok (.bipush (-100), 2) := by decide +kernel
theorem d_q_isBad_25 : decode M_q_isBad.2.1 25 = .ok (.bipush 100, 2) := by decide +kernel
theorem d_q_isBad_27 : decode M_q_isBad.2.1 27 = .ok (.invokestatic 86, 3) := by decide +kernel
theorem d_q_isBad_30 : decode M_q_isBad.2.1 30 = .ok (.ifCond .eq 14, 3) := by decide +kernel
theorem d_q_isBad_33 : decode M_q_isBad.2.1 33 = .ok (.iload_n 3, 1) := by decide +kernel
theorem d_q_isBad_34 : decode M_q_isBad.2.1 34 = .ok (.bipush (-100), 2) := by decide +kernel
theorem d_q_isBad_36 : decode M_q_isBad.2.1 36 = .ok (.bipush 100, 2) := by decide +kernel
theorem d_q_isBad_38 : decode M_q_isBad.2.1 38 = .ok (.invokestatic 86, 3) := by decide +kernel
theorem d_q_isBad_41 : decode M_q_isBad.2.1 41 = .ok (.ifCond .ne 7, 3) := by decide +kernel
theorem d_q_isBad_44 : decode M_q_isBad.2.1 44 = .ok (.iconst 1, 1) := by decide +kernel
theorem d_q_isBad_45 : decode M_q_isBad.2.1 45 = .ok (.goto 4, 3) := by decide +kernel
theorem d_q_isBad_48 : decode M_q_isBad.2.1 48 = .ok (.iconst 0, 1) := by decide +kernel
theorem d_q_isBad_49 : decode M_q_isBad.2.1 49 = .ok (.ireturn, 1) := by decide +kernel
theorem d_q_train_0 : decode M_q_train.2.1 0 = .ok (.aload_n 0, 1) := by decide +kernel
theorem d_q_train_1 : decode M_q_train.2.1 1 = .ok (.getfield 19, 3) := by decide +kernel
theorem d_q_train_4 : decode M_q_train.2.1 4 = .ok (.getfield 73, 3) := by decide +kernel
theorem d_q_train_7 : decode M_q_train.2.1 7 = .ok (.ifCond .ne 5, 3) := by decide +kernel
theorem d_q_train_10 : decode M_q_train.2.1 10 = .ok (.iconst (-1), 1) := by decide +kernel
theorem d_q_train_11 : decode M_q_train.2.1 11 = .ok (.ireturn, 1) := by decide +kernel
theorem d_q_train_12 : decode M_q_train.2.1 12 = .ok (.aload_n 0, 1) := by decide +kernel
theorem d_q_train_13 : decode M_q_train.2.1 13 = .ok (.getfield 40, 3) := by decide +kernel
theorem d_q_train_16 : decode M_q_train.2.1 16 = .ok (.getfield 85, 3) := by decide +kernel
theorem d_q_train_19 : decode M_q_train.2.1 19 = .ok (.ifCond .le 6, 3) := by decide +kernel
theorem d_q_train_22 : decode M_q_train.2.1 22 = .ok (.bipush (-2), 2) := by decide +kernel
theorem d_q_train_24 : decode M_q_train.2.1 24 = .ok (.ireturn, 1) := by decide +kernel
theorem d_q_train_25 : decode M_q_train.2.1 25 = .ok (.iload_n 1, 1) := by decide +kernel
theorem d_q_train_26 : decode M_q_train.2.1 26 = .ok (.iconst 1, 1) := by decide +kernel
theorem d_q_train_27 : decode M_q_train.2.1 27 = .ok (.iconst 4, 1) := by decide +kernel
theorem d_q_train_28 : decode M_q_train.2.1 28 = .ok (.invokestatic 86, 3) := by decide +kernel
theorem d_q_train_31 : decode M_q_train.2.1 31 = .ok (.ifCond .eq 32, 3) := by decide +kernel
theorem d_q_train_34 : decode M_q_train.2.1 34 = .ok (.iload_n 2, 1) := by decide +kernel
theorem d_q_train_35 : decode M_q_train.2.1 35 = .ok (.iconst 0, 1) := by decide +kernel
theorem d_q_train_36 : decode M_q_train.2.1 36 = .ok (.iconst 2, 1) := by decide +kernel
theorem d_q_train_37 : decode M_q_train.2.1 37 = .ok (.invokestatic 86, 3) := by decide +kernel
theorem d_q_train_40 : decode M_q_train.2.1 40 = .ok (.ifCond .eq 23, 3) := by decide +kernel
theorem d_q_train_43 : decode M_q_train.2.1 43 = .ok (.iload_n 3, 1) := by decide +kernel
theorem d_q_train_44 : decode M_q_train.2.1 44 = .ok (.iconst 1, 1) := by decide +kernel
theorem d_q_train_45 : decode M_q_train.2.1 45 = .ok (.iconst 4, 1) := by decide +kernel
theorem d_q_train_46 : decode M_q_train.2.1 46 = .ok (.invokestatic 86, 3) := by decide +kernel
theorem d_q_train_49 : decode M_q_train.2.1 49 = .ok (.ifCond .eq 14, 3) := by decide +kernel
theorem d_q_train_52 : decode M_q_train.2.1 52 = .ok (.iload 4, 2) := by decide +kernel
theorem d_q_train_54 : decode M_q_train.2.1 54 = .ok (.iconst 0, 1) := by decide +kernel
theorem d_q_train_55 : decode M_q_train.2.1 55 = .ok (.bipush 8, 2) := by decide +kernel
theorem d_q_train_57 : decode M_q_train.2.1 57 = .ok (.invokestatic 86, 3) := by decide +kernel
theorem d_q_train_60 : decode M_q_train.2.1 60 = .ok (.ifCond .ne 6, 3) := by decide +kernel
theorem d_q_train_63 : decode M_q_train.2.1 63 = .ok (.bipush (-3), 2) := by decide +kernel
theorem d_q_train_65 : decode M_q_train.2.1 65 = .ok (.ireturn, 1) := by decide +kernel
theorem d_q_train_66 : decode M_q_train.2.1 66 = .ok (.aload_n 0, 1) := by decide +kernel
theorem d_q_train_67 : decode M_q_train.2.1 67 = .ok (.getfield 33, 3) := by decide +kernel
theorem d_q_train_70 : decode M_q_train.2.1 70 = .ok (.iload_n 2, 1) := by decide +kernel
theorem d_q_train_71 : decode M_q_train.2.1 71 = .ok (.iload_n 1, 1) := by decide +kernel
theorem d_q_train_72 : decode M_q_train.2.1 72 = .ok (.iload_n 3, 1) := by decide +kernel
theorem d_q_train_73 : decode M_q_train.2.1 73 = .ok (.invokevirtual 90, 3) := by decide +kernel
theorem d_q_train_76 : decode M_q_train.2.1 76 = .ok (.aload_n 0, 1) := by decide +kernel
theorem d_q_train_77 : decode M_q_train.2.1 77 = .ok (.iload 4, 2) := by decide +kernel
theorem d_q_train_79 : decode M_q_train.2.1 79 = .ok (.invokevirtual 93, 3) := by decide +kernel
theorem d_q_train_82 : decode M_q_train.2.1 82 = .ok (.aload_n 0, 1) := by decide +kernel
theorem d_q_train_83 : decode M_q_train.2.1 83 = .ok (.invokevirtual 97, 3) := by decide +kernel
theorem d_q_train_86 : decode M_q_train.2.1 86 = .ok (.aload_n 0, 1) := by decide +kernel
theorem d_q_train_87 : decode M_q_train.2.1 87 = .ok (.iload 4, 2) := by decide +kernel
theorem d_q_train_89 : decode M_q_train.2.1 89 = .ok (.invokevirtual 100, 3) := by decide +kernel
theorem d_q_train_92 : decode M_q_train.2.1 92 = .ok (.aload_n 0, 1) := by decide +kernel
theorem d_q_train_93 : decode M_q_train.2.1 93 = .ok (.invokevirtual 103, 3) := by decide +kernel
theorem d_q_train_96 : decode M_q_train.2.1 96 = .ok (.ireturn, 1) := by decide +kernel
theorem d_z_become_0 : decode M_z_become.2.1 0 = .ok (.aload_n 0, 1) := by decide +kernel
theorem d_z_become_1 : decode M_z_become.2.1 1 = .ok (.iconst 1, 1) := by decide +kernel
theorem d_z_become_2 : decode M_z_become.2.1 2 = .ok (.putfield 23, 3) := by decide +kernel
theorem d_z_become_5 : decode M_z_become.2.1 5 = .ok (.aload_n 0, 1) := by decide +kernel
theorem d_z_become_6 : decode M_z_become.2.1 6 = .ok (.iload_n 1, 1) := by decide +kernel
theorem d_z_become_7 : decode M_z_become.2.1 7 = .ok (.putfield 27, 3) := by decide +kernel
theorem d_z_become_10 : decode M_z_become.2.1 10 = .ok (.aload_n 0, 1) := by decide +kernel
theorem d_z_become_11 : decode M_z_become.2.1 11 = .ok (.iload_n 2, 1) := by decide +kernel
theorem d_z_become_12 : decode M_z_become.2.1 12 = .ok (.putfield 31, 3) := by decide +kernel
theorem d_z_become_15 : decode M_z_become.2.1 15 = .ok (.aload_n 0, 1) := by decide +kernel
theorem d_z_become_16 : decode M_z_become.2.1 16 = .ok (.iload_n 3, 1) := by decide +kernel
theorem d_z_become_17 : decode M_z_become.2.1 17 = .ok (.putfield 34, 3) := by decide +kernel
theorem d_z_become_20 : decode M_z_become.2.1 20 = .ok (.return_, 1) := by decide +kernel
theorem d_q_learnCentres_0 : decode M_q_learnCentres.2.1 0 = .ok (.aload_n 0, 1) := by decide +kernel
theorem d_q_learnCentres_1 : decode M_q_learnCentres.2.1 1 = .ok (.getfield 26, 3) := by decide +kernel
theorem d_q_learnCentres_4 : decode M_q_learnCentres.2.1 4 = .ok (.aload_n 0, 1) := by decide +kernel
theorem d_q_learnCentres_5 : decode M_q_learnCentres.2.1 5 = .ok (.getfield 19, 3) := by decide +kernel
theorem d_q_learnCentres_8 : decode M_q_learnCentres.2.1 8 = .ok (.getfield 73, 3) := by decide +kernel
theorem d_q_learnCentres_11 : decode M_q_learnCentres.2.1 11 = .ok (.putfield 233, 3) := by decide +kernel
theorem d_q_learnCentres_14 : decode M_q_learnCentres.2.1 14 = .ok (.iconst 0, 1) := by decide +kernel
theorem d_q_learnCentres_15 : decode M_q_learnCentres.2.1 15 = .ok (.istore_n 2, 1) := by decide +kernel
theorem d_q_learnCentres_16 : decode M_q_learnCentres.2.1 16 = .ok (.iload_n 2, 1) := by decide +kernel
theorem d_q_learnCentres_17 : decode M_q_learnCentres.2.1 17 = .ok (.aload_n 0, 1) := by decide +kernel
theorem d_q_learnCentres_18 : decode M_q_learnCentres.2.1 18 = .ok (.getfield 19, 3) := by decide +kernel
theorem d_q_learnCentres_21 : decode M_q_learnCentres.2.1 21 = .ok (.getfield 73, 3) := by decide +kernel
theorem d_q_learnCentres_24 : decode M_q_learnCentres.2.1 24 = .ok (.if_icmp .ge 34, 3) := by decide +kernel
theorem d_q_learnCentres_27 : decode M_q_learnCentres.2.1 27 = .ok (.aload_n 0, 1) := by decide +kernel
theorem d_q_learnCentres_28 : decode M_q_learnCentres.2.1 28 = .ok (.getfield 10, 3) := by decide +kernel
theorem d_q_learnCentres_31 : decode M_q_learnCentres.2.1 31 = .ok (.aload_n 0, 1) := by decide +kernel
theorem d_q_learnCentres_32 : decode M_q_learnCentres.2.1 32 = .ok (.getfield 19, 3) := by decide +kernel
theorem d_q_learnCentres_35 : decode M_q_learnCentres.2.1 35 = .ok (.getfield 77, 3) := by decide +kernel
theorem d_q_learnCentres_38 : decode M_q_learnCentres.2.1 38 = .ok (.iload_n 2, 1) := by decide +kernel
theorem d_q_learnCentres_39 : decode M_q_learnCentres.2.1 39 = .ok (.aaload, 1) := by decide +kernel
theorem d_q_learnCentres_40 : decode M_q_learnCentres.2.1 40 = .ok (.aload_n 0, 1) := by decide +kernel
theorem d_q_learnCentres_41 : decode M_q_learnCentres.2.1 41 = .ok (.getfield 26, 3) := by decide +kernel
theorem d_q_learnCentres_44 : decode M_q_learnCentres.2.1 44 = .ok (.getfield 236, 3) := by decide +kernel
theorem d_q_learnCentres_47 : decode M_q_learnCentres.2.1 47 = .ok (.iload_n 2, 1) := by decide +kernel
theorem d_q_learnCentres_48 : decode M_q_learnCentres.2.1 48 = .ok (.aaload, 1) := by decide +kernel
theorem d_q_learnCentres_49 : decode M_q_learnCentres.2.1 49 = .ok (.invokevirtual 171, 3) := by decide +kernel
theorem d_q_learnCentres_52 : decode M_q_learnCentres.2.1 52 = .ok (.iinc 2 1, 3) := by decide +kernel
theorem d_q_learnCentres_55 : decode M_q_learnCentres.2.1 55 = .ok (.goto (-39), 3) := by decide +kernel
theorem d_q_learnCentres_58 : decode M_q_learnCentres.2.1 58 = .ok (.aload_n 0, 1) := by decide +kernel
theorem d_q_learnCentres_59 : decode M_q_learnCentres.2.1 59 = .ok (.getfield 26, 3) := by decide +kernel
theorem d_q_learnCentres_62 : decode M_q_learnCentres.2.1 62 = .ok (.iconst 0, 1) := by decide +kernel
theorem d_q_learnCentres_63 : decode M_q_learnCentres.2.1 63 = .ok (.iconst 4, 1) := by decide +kernel
theorem d_q_learnCentres_64 : decode M_q_learnCentres.2.1 64 = .ok (.aload_n 0, 1) := by decide +kernel
theorem d_q_learnCentres_65 : decode M_q_learnCentres.2.1 65 = .ok (.getfield 33, 3) := by decide +kernel
theorem d_q_learnCentres_68 : decode M_q_learnCentres.2.1 68 = .ok (.getfield 239, 3) := by decide +kernel
theorem d_q_learnCentres_71 : decode M_q_learnCentres.2.1 71 = .ok (.iload_n 1, 1) := by decide +kernel
theorem d_q_learnCentres_72 : decode M_q_learnCentres.2.1 72 = .ok (.invokevirtual 242, 3) := by decide +kernel
theorem d_q_learnCentres_75 : decode M_q_learnCentres.2.1 75 = .ok (.aload_n 0, 1) := by decide +kernel
theorem d_q_learnCentres_76 : decode M_q_learnCentres.2.1 76 = .ok (.getfield 26, 3) := by decide +kernel
theorem d_q_learnCentres_79 : decode M_q_learnCentres.2.1 79 = .ok (.aload_n 0, 1) := by decide +kernel
theorem d_q_learnCentres_80 : decode M_q_learnCentres.2.1 80 = .ok (.getfield 33, 3) := by decide +kernel
theorem d_q_learnCentres_83 : decode M_q_learnCentres.2.1 83 = .ok (.getfield 111, 3) := by decide +kernel
theorem d_q_learnCentres_86 : decode M_q_learnCentres.2.1 86 = .ok (.iconst 0, 1) := by decide +kernel
theorem d_q_learnCentres_87 : decode M_q_learnCentres.2.1 87 = .ok (.invokevirtual 245, 3) := by decide +kernel
theorem d_q_learnCentres_90 : decode M_q_learnCentres.2.1 90 = .ok (.return_, 1) := by decide +kernel
theorem d_t_apply_0 : decode M_t_apply.2.1 0 = .ok (.iconst 0, 1) := by decide +kernel
theorem d_t_apply_1 : decode M_t_apply.2.1 1 = .ok (.istore_n 3, 1) := by decide +kernel
theorem d_t_apply_2 : decode M_t_apply.2.1 2 = .ok (.iload_n 3, 1) := by decide +kernel
theorem d_t_apply_3 : decode M_t_apply.2.1 3 = .ok (.iconst 4, 1) := by decide +kernel
theorem d_t_apply_4 : decode M_t_apply.2.1 4 = .ok (.if_icmp .ge 44, 3) := by decide +kernel
theorem d_t_apply_7 : decode M_t_apply.2.1 7 = .ok (.aload_n 1, 1) := by decide +kernel
theorem d_t_apply_8 : decode M_t_apply.2.1 8 = .ok (.aload_n 0, 1) := by decide +kernel
theorem d_t_apply_9 : decode M_t_apply.2.1 9 = .ok (.getfield 9, 3) := by decide +kernel
theorem d_t_apply_12 : decode M_t_apply.2.1 12 = .ok (.iload_n 3, 1) := by decide +kernel
theorem d_t_apply_13 : decode M_t_apply.2.1 13 = .ok (.iaload, 1) := by decide +kernel
theorem d_t_apply_14 : decode M_t_apply.2.1 14 = .ok (.invokestatic 27, 3) := by decide +kernel
theorem d_t_apply_17 : decode M_t_apply.2.1 17 = .ok (.iconst 1, 1) := by decide +kernel
theorem d_t_apply_18 : decode M_t_apply.2.1 18 = .ok (.isub, 1) := by decide +kernel
theorem d_t_apply_19 : decode M_t_apply.2.1 19 = .ok (.iaload, 1) := by decide +kernel
theorem d_t_apply_20 : decode M_t_apply.2.1 20 = .ok (.istore 4, 2) := by decide +kernel
theorem d_t_apply_22 : decode M_t_apply.2.1 22 = .ok (.aload_n 2, 1) := by decide +kernel
theorem d_t_apply_23 : decode M_t_apply.2.1 23 = .ok (.iload_n 3, 1) := by decide +kernel
theorem d_t_apply_24 : decode M_t_apply.2.1 24 = .ok (.aload_n 0, 1) := by decide +kernel
theorem d_t_apply_25 : decode M_t_apply.2.1 25 = .ok (.getfield 9, 3) := by decide +kernel
theorem d_t_apply_28 : decode M_t_apply.2.1 28 = .ok (.iload_n 3, 1) := by decide +kernel
theorem d_t_apply_29 : decode M_t_apply.2.1 29 = .ok (.iaload, 1) := by decide +kernel
theorem d_t_apply_30 : decode M_t_apply.2.1 30 = .ok (.ifCond .ge 9, 3) := by decide +kernel
theorem d_t_apply_33 : decode M_t_apply.2.1 33 = .ok (.iload 4, 2) := by decide +kernel
theorem d_t_apply_35 : decode M_t_apply.2.1 35 = .ok (.ineg, 1) := by decide +kernel
theorem d_t_apply_36 : decode M_t_apply.2.1 36 = .ok (.goto 5, 3) := by decide +kernel
theorem d_t_apply_39 : decode M_t_apply.2.1 39 = .ok (.iload 4, 2) := by decide +kernel
theorem d_t_apply_41 : decode M_t_apply.2.1 41 = .ok (.iastore, 1) := by decide +kernel
theorem d_t_apply_42 : decode M_t_apply.2.1 42 = .ok (.iinc 3 1, 3) := by decide +kernel
theorem d_t_apply_45 : decode M_t_apply.2.1 45 = .ok (.goto (-43), 3) := by decide +kernel
theorem d_t_apply_48 : decode M_t_apply.2.1 48 = .ok (.return_, 1) := by decide +kernel
theorem d_c_cluster_0 : decode M_c_cluster.2.1 0 = .ok (.aload_n 0, 1) := by decide +kernel
theorem d_c_cluster_1 : decode M_c_cluster.2.1 1 = .ok (.iload_n 1, 1) := by decide +kernel
theorem d_c_cluster_2 : decode M_c_cluster.2.1 2 = .ok (.putfield 29, 3) := by decide +kernel
theorem d_c_cluster_5 : decode M_c_cluster.2.1 5 = .ok (.aload_n 0, 1) := by decide +kernel
theorem d_c_cluster_6 : decode M_c_cluster.2.1 6 = .ok (.iload_n 2, 1) := by decide +kernel
theorem d_c_cluster_7 : decode M_c_cluster.2.1 7 = .ok (.putfield 33, 3) := by decide +kernel
theorem d_c_cluster_10 : decode M_c_cluster.2.1 10 = .ok (.aload_n 0, 1) := by decide +kernel
theorem d_c_cluster_11 : decode M_c_cluster.2.1 11 = .ok (.iload_n 3, 1) := by decide +kernel
theorem d_c_cluster_12 : decode M_c_cluster.2.1 12 = .ok (.putfield 36, 3) := by decide +kernel
theorem d_c_cluster_15 : decode M_c_cluster.2.1 15 = .ok (.aload_n 0, 1) := by decide +kernel
theorem d_c_cluster_16 : decode M_c_cluster.2.1 16 = .ok (.invokevirtual 39, 3) := by decide +kernel
theorem d_c_cluster_19 : decode M_c_cluster.2.1 19 = .ok (.iconst 0, 1) := by decide +kernel
theorem d_c_cluster_20 : decode M_c_cluster.2.1 20 = .ok (.istore 5, 2) := by decide +kernel
theorem d_c_cluster_22 : decode M_c_cluster.2.1 22 = .ok (.iload 5, 2) := by decide +kernel
theorem d_c_cluster_24 : decode M_c_cluster.2.1 24 = .ok (.iload 4, 2) := by decide +kernel
theorem d_c_cluster_26 : decode M_c_cluster.2.1 26 = .ok (.if_icmp .ge 21, 3) := by decide +kernel
theorem d_c_cluster_29 : decode M_c_cluster.2.1 29 = .ok (.aload_n 0, 1) := by decide +kernel
theorem d_c_cluster_30 : decode M_c_cluster.2.1 30 = .ok (.invokevirtual 42, 3) := by decide +kernel
theorem d_c_cluster_33 : decode M_c_cluster.2.1 33 = .ok (.aload_n 0, 1) := by decide +kernel
theorem d_c_cluster_34 : decode M_c_cluster.2.1 34 = .ok (.invokevirtual 45, 3) := by decide +kernel
theorem d_c_cluster_37 : decode M_c_cluster.2.1 37 = .ok (.aload_n 0, 1) := by decide +kernel
theorem d_c_cluster_38 : decode M_c_cluster.2.1 38 = .ok (.invokevirtual 48, 3) := by decide +kernel
theorem d_c_cluster_41 : decode M_c_cluster.2.1 41 = .ok (.iinc 5 1, 3) := by decide +kernel
theorem d_c_cluster_44 : decode M_c_cluster.2.1 44 = .ok (.goto (-22), 3) := by decide +kernel
theorem d_c_cluster_47 : decode M_c_cluster.2.1 47 = .ok (.return_, 1) := by decide +kernel
theorem d_c_chooseCentres_0 : decode M_c_chooseCentres.2.1 0 = .ok (.aload_n 0, 1) := by decide +kernel
theorem d_c_chooseCentres_1 : decode M_c_chooseCentres.2.1 1 = .ok (.iconst 0, 1) := by decide +kernel
theorem d_c_chooseCentres_2 : decode M_c_chooseCentres.2.1 2 = .ok (.iconst 0, 1) := by decide +kernel
theorem d_c_chooseCentres_3 : decode M_c_chooseCentres.2.1 3 = .ok (.invokevirtual 63, 3) := by decide +kernel
theorem d_c_chooseCentres_6 : decode M_c_chooseCentres.2.1 6 = .ok (.iconst 1, 1) := by decide +kernel
theorem d_c_chooseCentres_7 : decode M_c_chooseCentres.2.1 7 = .ok (.istore_n 1, 1) := by decide +kernel
theorem d_c_chooseCentres_8 : decode M_c_chooseCentres.2.1 8 = .ok (.iload_n 1, 1) := by decide +kernel
theorem d_c_chooseCentres_9 : decode M_c_chooseCentres.2.1 9 = .ok (.aload_n 0, 1) := by decide +kernel
theorem d_c_chooseCentres_10 : decode M_c_chooseCentres.2.1 10 = .ok (.getfield 36, 3) := by decide +kernel
theorem d_c_chooseCentres_13 : decode M_c_chooseCentres.2.1 13 = .ok (.if_icmp .ge 19, 3) := by decide +kernel
theorem d_c_chooseCentres_16 : decode M_c_chooseCentres.2.1 16 = .ok (.aload_n 0, 1) := by decide +kernel
theorem d_c_chooseCentres_17 : decode M_c_chooseCentres.2.1 17 = .ok (.iload_n 1, 1) := by decide +kernel
theorem d_c_chooseCentres_18 : decode M_c_chooseCentres.2.1 18 = .ok (.aload_n 0, 1) := by decide +kernel
theorem d_c_chooseCentres_19 : decode M_c_chooseCentres.2.1 19 = .ok (.iload_n 1, 1) := by decide +kernel
theorem d_c_chooseCentres_20 : decode M_c_chooseCentres.2.1 20 = .ok (.invokevirtual 67, 3) := by decide +kernel
theorem d_c_chooseCentres_23 : decode M_c_chooseCentres.2.1 23 = .ok (.invokevirtual 63, 3) := by decide +kernel
theorem d_c_chooseCentres_26 : decode M_c_chooseCentres.2.1 26 = .ok (.iinc 1 1, 3) := by decide +kernel
theorem d_c_chooseCentres_29 : decode M_c_chooseCentres.2.1 29 = .ok (.goto (-21), 3) := by decide +kernel
theorem d_c_chooseCentres_32 : decode M_c_chooseCentres.2.1 32 = .ok (.return_, 1) := by decide +kernel
theorem d_c_beginCentre_0 : decode M_c_beginCentre.2.1 0 = .ok (.iconst 0, 1) := by decide +kernel
theorem d_c_beginCentre_1 : decode M_c_beginCentre.2.1 1 = .ok (.istore_n 3, 1) := by decide +kernel
theorem d_c_beginCentre_2 : decode M_c_beginCentre.2.1 2 = .ok (.iload_n 3, 1) := by decide +kernel
theorem d_c_beginCentre_3 : decode M_c_beginCentre.2.1 3 = .ok (.aload_n 0, 1) := by decide +kernel
theorem d_c_beginCentre_4 : decode M_c_beginCentre.2.1 4 = .ok (.getfield 33, 3) := by decide +kernel
theorem d_c_beginCentre_7 : decode M_c_beginCentre.2.1 7 = .ok (.if_icmp .ge 30, 3) := by decide +kernel
theorem d_c_beginCentre_10 : decode M_c_beginCentre.2.1 10 = .ok (.aload_n 0, 1) := by decide +kernel
theorem d_c_beginCentre_11 : decode M_c_beginCentre.2.1 11 = .ok (.getfield 16, 3) := by decide +kernel
theorem d_c_beginCentre_14 : decode M_c_beginCentre.2.1 14 = .ok (.iload_n 1, 1) := by decide +kernel
theorem d_c_beginCentre_15 : decode M_c_beginCentre.2.1 15 = .ok (.aaload, 1) := by decide +kernel
theorem d_c_beginCentre_16 : decode M_c_beginCentre.2.1 16 = .ok (.iload_n 3, 1) := by decide +kernel
theorem d_c_beginCentre_17 : decode M_c_beginCentre.2.1 17 = .ok (.aload_n 0, 1) := by decide +kernel
theorem d_c_beginCentre_18 : decode M_c_beginCentre.2.1 18 = .ok (.getfield 11, 3) := by decide +kernel
theorem d_c_beginCentre_21 : decode M_c_beginCentre.2.1 21 = .ok (.iload_n 2, 1) := by decide +kernel
theorem d_c_beginCentre_22 : decode M_c_beginCentre.2.1 22 = .ok (.aaload, 1) := by decide +kernel
theorem d_c_beginCentre_23 : decode M_c_beginCentre.2.1 23 = .ok (.aload_n 0, 1) := by decide +kernel
theorem d_c_beginCentre_24 : decode M_c_beginCentre.2.1 24 = .ok (.getfield 29, 3) := by decide +kernel
theorem d_c_beginCentre_27 : decode M_c_beginCentre.2.1 27 = .ok (.iload_n 3, 1) := by decide +kernel
theorem d_c_beginCentre_28 : decode M_c_beginCentre.2.1 28 = .ok (.iadd, 1) := by decide +kernel
theorem d_c_beginCentre_29 : decode M_c_beginCentre.2.1 29 = .ok (.iaload, 1) := by decide +kernel
theorem d_c_beginCentre_30 : decode M_c_beginCentre.2.1 30 = .ok (.iastore, 1) := by decide +kernel
theorem d_c_beginCentre_31 : decode M_c_beginCentre.2.1 31 = .ok (.iinc 3 1, 3) := by decide +kernel
theorem d_c_beginCentre_34 : decode M_c_beginCentre.2.1 34 = .ok (.goto (-32), 3) := by decide +kernel
theorem d_c_beginCentre_37 : decode M_c_beginCentre.2.1 37 = .ok (.return_, 1) := by decide +kernel
theorem d_c_farthestItem_0 : decode M_c_farthestItem.2.1 0 = .ok (.iconst 0, 1) := by decide +kernel
theorem d_c_farthestItem_1 : decode M_c_farthestItem.2.1 1 = .ok (.istore_n 2, 1) := by decide +kernel
theorem d_c_farthestItem_2 : decode M_c_farthestItem.2.1 2 = .ok (.iconst (-1), 1) := by decide +kernel
theorem d_c_farthestItem_3 : decode M_c_farthestItem.2.1 3 = .ok (.istore_n 3, 1) := by decide +kernel
theorem d_c_farthestItem_4 : decode M_c_farthestItem.2.1 4 = .ok (.iconst 0, 1) := by decide +kernel
theorem d_c_farthestItem_5 : decode M_c_farthestItem.2.1 5 = .ok (.istore 4, 2) := by decide +kernel
theorem d_c_farthestItem_7 : decode M_c_farthestItem.2.1 7 = .ok (.iload 4, 2) := by decide +kernel
theorem d_c_farthestItem_9 : decode M_c_farthestItem.2.1 9 = .ok (.aload_n 0, 1) := by decide +kernel
theorem d_c_farthestItem_10 : decode M_c_farthestItem.2.1 10 = .ok (.getfield 51, 3) := by decide +kernel
theorem d_c_farthestItem_13 : decode M_c_farthestItem.2.1 13 = .ok (.if_icmp .ge 74, 3) := by decide +kernel
theorem d_c_farthestItem_16 : decode M_c_farthestItem.2.1 16 = .ok (.aload_n 0, 1) := by decide +kernel
theorem d_c_farthestItem_17 : decode M_c_farthestItem.2.1 17 = .ok (.getfield 16, 3) := by decide +kernel
theorem d_c_farthestItem_20 : decode M_c_farthestItem.2.1 20 = .ok (.iconst 0, 1) := by decide +kernel
theorem d_c_farthestItem_21 : decode M_c_farthestItem.2.1 21 = .ok (.iload_n 1, 1) := by decide +kernel
theorem d_c_farthestItem_22 : decode M_c_farthestItem.2.1 22 = .ok (.aload_n 0, 1) := by decide +kernel
theorem d_c_farthestItem_23 : decode M_c_farthestItem.2.1 23 = .ok (.getfield 11, 3) := by decide +kernel
theorem d_c_farthestItem_26 : decode M_c_farthestItem.2.1 26 = .ok (.iload 4, 2) := by decide +kernel
theorem d_c_farthestItem_28 : decode M_c_farthestItem.2.1 28 = .ok (.aaload, 1) := by decide +kernel
theorem d_c_farthestItem_29 : decode M_c_farthestItem.2.1 29 = .ok (.aload_n 0, 1) := by decide +kernel
theorem d_c_farthestItem_30 : decode M_c_farthestItem.2.1 30 = .ok (.getfield 29, 3) := by decide +kernel
theorem d_c_farthestItem_33 : decode M_c_farthestItem.2.1 33 = .ok (.aload_n 0, 1) := by decide +kernel
theorem d_c_farthestItem_34 : decode M_c_farthestItem.2.1 34 = .ok (.getfield 33, 3) := by decide +kernel
theorem d_c_farthestItem_37 : decode M_c_farthestItem.2.1 37 = .ok (.invokestatic 71, 3) := by decide +kernel
theorem d_c_farthestItem_40 : decode M_c_farthestItem.2.1 40 = .ok (.istore 5, 2) := by decide +kernel
theorem d_c_farthestItem_42 : decode M_c_farthestItem.2.1 42 = .ok (.aload_n 0, 1) := by decide +kernel
theorem d_c_farthestItem_43 : decode M_c_farthestItem.2.1 43 = .ok (.getfield 16, 3) := by decide +kernel
theorem d_c_farthestItem_46 : decode M_c_farthestItem.2.1 46 = .ok (.iload 5, 2) := by decide +kernel
theorem d_c_farthestItem_48 : decode M_c_farthestItem.2.1 48 = .ok (.aaload, 1) := by decide +kernel
theorem d_c_farthestItem_49 : decode M_c_farthestItem.2.1 49 = .ok (.aload_n 0, 1) := by decide +kernel
theorem d_c_farthestItem_50 : decode M_c_farthestItem.2.1 50 = .ok (.getfield 11, 3) := by decide +kernel
theorem d_c_farthestItem_53 : decode M_c_farthestItem.2.1 53 = .ok (.iload 4, 2) := by decide +kernel
theorem d_c_farthestItem_55 : decode M_c_farthestItem.2.1 55 = .ok (.aaload, 1) := by decide +kernel
theorem d_c_farthestItem_56 : decode M_c_farthestItem.2.1 56 = .ok (.aload_n 0, 1) := by decide +kernel
theorem d_c_farthestItem_57 : decode M_c_farthestItem.2.1 57 = .ok (.getfield 29, 3) := by decide +kernel
theorem d_c_farthestItem_60 : decode M_c_farthestItem.2.1 60 = .ok (.aload_n 0, 1) := by decide +kernel
theorem d_c_farthestItem_61 : decode M_c_farthestItem.2.1 61 = .ok (.getfield 33, 3) := by decide +kernel
theorem d_c_farthestItem_64 : decode M_c_farthestItem.2.1 64 = .ok (.invokestatic 75, 3) := by decide +kernel
theorem d_c_farthestItem_67 : decode M_c_farthestItem.2.1 67 = .ok (.istore 6, 2) := by decide +kernel
theorem d_c_farthestItem_69 : decode M_c_farthestItem.2.1 69 = .ok (.iload 6, 2) := by decide +kernel
theorem d_c_farthestItem_71 : decode M_c_farthestItem.2.1 71 = .ok (.iload_n 3, 1) := by decide +kernel
theorem d_c_farthestItem_72 : decode M_c_farthestItem.2.1 72 = .ok (.if_icmp .le 9, 3) := by decide +kernel
theorem d_c_farthestItem_75 : decode M_c_farthestItem.2.1 75 = .ok (.iload 4, 2) := by decide +kernel
theorem d_c_farthestItem_77 : decode M_c_farthestItem.2.1 77 = .ok (.istore_n 2, 1) := by decide +kernel
theorem d_c_farthestItem_78 : decode M_c_farthestItem.2.1 78 = .ok (.iload 6, 2) := by decide +kernel
theorem d_c_farthestItem_80 : decode M_c_farthestItem.2.1 80 = .ok (.istore_n 3, 1) := by decide +kernel
theorem d_c_farthestItem_81 : decode M_c_farthestItem.2.1 81 = .ok (.iinc 4 1, 3) := by decide +kernel
theorem d_c_farthestItem_84 : decode M_c_farthestItem.2.1 84 = .ok (.goto (-77), 3) := by decide +kernel
theorem d_c_farthestItem_87 : decode M_c_farthestItem.2.1 87 = .ok (.iload_n 2, 1) := by decide +kernel
theorem d_c_farthestItem_88 : decode M_c_farthestItem.2.1 88 = .ok (.ireturn, 1) := by decide +kernel
theorem d_q_nearestRow_0 : decode M_q_nearestRow.2.1 0 = .ok (.iconst 0, 1) := by decide +kernel
theorem d_q_nearestRow_1 : decode M_q_nearestRow.2.1 1 = .ok (.istore 6, 2) := by decide +kernel
theorem d_q_nearestRow_3 : decode M_q_nearestRow.2.1 3 = .ok (.aload_n 0, 1) := by decide +kernel
theorem d_q_nearestRow_4 : decode M_q_nearestRow.2.1 4 = .ok (.iload_n 1, 1) := by decide +kernel
theorem d_q_nearestRow_5 : decode M_q_nearestRow.2.1 5 = .ok (.aaload, 1) := by decide +kernel
theorem d_q_nearestRow_6 : decode M_q_nearestRow.2.1 6 = .ok (.aload_n 3, 1) := by decide +kernel
theorem d_q_nearestRow_7 : decode M_q_nearestRow.2.1 7 = .ok (.iload 4, 2) := by decide +kernel
theorem d_q_nearestRow_9 : decode M_q_nearestRow.2.1 9 = .ok (.iload 5, 2) := by decide +kernel
theorem d_q_nearestRow_11 : decode M_q_nearestRow.2.1 11 = .ok (.invokestatic 312, 3) := by decide +kernel
theorem d_q_nearestRow_14 : decode M_q_nearestRow.2.1 14 = .ok (.istore 7, 2) := by decide +kernel
theorem d_q_nearestRow_16 : decode M_q_nearestRow.2.1 16 = .ok (.iconst 1, 1) := by decide +kernel
theorem d_q_nearestRow_17 : decode M_q_nearestRow.2.1 17 = .ok (.istore 8, 2) := by decide +kernel
theorem d_q_nearestRow_19 : decode M_q_nearestRow.2.1 19 = .ok (.iload 8, 2) := by decide +kernel
theorem d_q_nearestRow_21 : decode M_q_nearestRow.2.1 21 = .ok (.iload_n 2, 1) := by decide +kernel
theorem d_q_nearestRow_22 : decode M_q_nearestRow.2.1 22 = .ok (.if_icmp .ge 40, 3) := by decide +kernel
theorem d_q_nearestRow_25 : decode M_q_nearestRow.2.1 25 = .ok (.aload_n 0, 1) := by decide +kernel
theorem d_q_nearestRow_26 : decode M_q_nearestRow.2.1 26 = .ok (.iload_n 1, 1) := by decide +kernel
theorem d_q_nearestRow_27 : decode M_q_nearestRow.2.1 27 = .ok (.iload 8, 2) := by decide +kernel
theorem d_q_nearestRow_29 : decode M_q_nearestRow.2.1 29 = .ok (.iadd, 1) := by decide +kernel
theorem d_q_nearestRow_30 : decode M_q_nearestRow.2.1 30 = .ok (.aaload, 1) := by decide +kernel
theorem d_q_nearestRow_31 : decode M_q_nearestRow.2.1 31 = .ok (.aload_n 3, 1) := by decide +kernel
theorem d_q_nearestRow_32 : decode M_q_nearestRow.2.1 32 = .ok (.iload 4, 2) := by decide +kernel
theorem d_q_nearestRow_34 : decode M_q_nearestRow.2.1 34 = .ok (.iload 5, 2) := by decide +kernel
theorem d_q_nearestRow_36 : decode M_q_nearestRow.2.1 36 = .ok (.invokestatic 312, 3) := by decide +kernel
theorem d_q_nearestRow_39 : decode M_q_nearestRow.2.1 39 = .ok (.istore 9, 2) := by decide +kernel
theorem d_q_nearestRow_41 : decode M_q_nearestRow.2.1 41 = .ok (.iload 9, 2) := by decide +kernel
