theorem d_m_turn_0 : decode M_m_turn.2.1 0 = .ok (.aload_n 0, 1) := by decide +kernel
theorem d_m_turn_1 : decode M_m_turn.2.1 1 = .ok (.getfield 92, 3) := by decide +kernel
theorem d_m_turn_4 : decode M_m_turn.2.1 4 = .ok (.ifCond .ne 14, 3) := by decide +kernel
theorem d_m_turn_7 : decode M_m_turn.2.1 7 = .ok (.iload_n 1, 1) := by decide +kernel
theorem d_m_turn_8 : decode M_m_turn.2.1 8 = .ok (.iload_n 2, 1) := by decide +kernel
theorem d_m_turn_9 : decode M_m_turn.2.1 9 = .ok (.iload_n 3, 1) := by decide +kernel
theorem d_m_turn_10 : decode M_m_turn.2.1 10 = .ok (.iload 4, 2) := by decide +kernel
theorem d_m_turn_12 : decode M_m_turn.2.1 12 = .ok (.invokestatic 96, 3) := by decide +kernel
theorem d_m_turn_15 : decode M_m_turn.2.1 15 = .ok (.ifCond .ne 5, 3) := by decide +kernel
theorem d_m_turn_18 : decode M_m_turn.2.1 18 = .ok (.iconst 0, 1) := by decide +kernel
theorem d_m_turn_19 : decode M_m_turn.2.1 19 = .ok (.ireturn, 1) := by decide +kernel
theorem d_m_turn_20 : decode M_m_turn.2.1 20 = .ok (.aload_n 0, 1) := by decide +kernel
theorem d_m_turn_21 : decode M_m_turn.2.1 21 = .ok (.getfield 7, 3) := by decide +kernel
theorem d_m_turn_24 : decode M_m_turn.2.1 24 = .ok (.iconst 0, 1) := by decide +kernel
theorem d_m_turn_25 : decode M_m_turn.2.1 25 = .ok (.iload_n 1, 1) := by decide +kernel
theorem d_m_turn_26 : decode M_m_turn.2.1 26 = .ok (.iastore, 1) := by decide +kernel
theorem d_m_turn_27 : decode M_m_turn.2.1 27 = .ok (.aload_n 0, 1) := by decide +kernel
theorem d_m_turn_28 : decode M_m_turn.2.1 28 = .ok (.getfield 7, 3) := by decide +kernel
theorem d_m_turn_31 : decode M_m_turn.2.1 31 = .ok (.iconst 1, 1) := by decide +kernel
theorem d_m_turn_32 : decode M_m_turn.2.1 32 = .ok (.iload_n 2, 1) := by decide +kernel
theorem d_m_turn_33 : decode M_m_turn.2.1 33 = .ok (.iastore, 1) := by decide +kernel
theorem d_m_turn_34 : decode M_m_turn.2.1 34 = .ok (.aload_n 0, 1) := by decide +kernel
theorem d_m_turn_35 : decode M_m_turn.2.1 35 = .ok (.getfield 7, 3) := by decide +kernel
theorem d_m_turn_38 : decode M_m_turn.2.1 38 = .ok (.iconst 2, 1) := by decide +kernel
theorem d_m_turn_39 : decode M_m_turn.2.1 39 = .ok (.iload_n 3, 1) := by decide +kernel
theorem d_m_turn_40 : decode M_m_turn.2.1 40 = .ok (.iastore, 1) := by decide +kernel
theorem d_m_turn_41 : decode M_m_turn.2.1 41 = .ok (.aload_n 0, 1) := by decide +kernel
theorem d_m_turn_42 : decode M_m_turn.2.1 42 = .ok (.getfield 7, 3) := by decide +kernel
theorem d_m_turn_45 : decode M_m_turn.2.1 45 = .ok (.iconst 3, 1) := by decide +kernel
theorem d_m_turn_46 : decode M_m_turn.2.1 46 = .ok (.iload 4, 2) := by decide +kernel
theorem d_m_turn_48 : decode M_m_turn.2.1 48 = .ok (.iastore, 1) := by decide +kernel
theorem d_m_turn_49 : decode M_m_turn.2.1 49 = .ok (.iconst 1, 1) := by decide +kernel
theorem d_m_turn_50 : decode M_m_turn.2.1 50 = .ok (.ireturn, 1) := by decide +kernel
theorem d_m_isTurn_0 : decode M_m_isTurn.2.1 0 = .ok (.iload_n 0, 1) := by decide +kernel
theorem d_m_isTurn_1 : decode M_m_isTurn.2.1 1 = .ok (.invokestatic 81, 3) := by decide +kernel
theorem d_m_isTurn_4 : decode M_m_isTurn.2.1 4 = .ok (.iload_n 1, 1) := by decide +kernel
theorem d_m_isTurn_5 : decode M_m_isTurn.2.1 5 = .ok (.invokestatic 81, 3) := by decide +kernel
theorem d_m_isTurn_8 : decode M_m_isTurn.2.1 8 = .ok (.ior, 1) := by decide +kernel
theorem d_m_isTurn_9 : decode M_m_isTurn.2.1 9 = .ok (.iload_n 2, 1) := by decide +kernel
theorem d_m_isTurn_10 : decode M_m_isTurn.2.1 10 = .ok (.invokestatic 81, 3) := by decide +kernel
theorem d_m_isTurn_13 : decode M_m_isTurn.2.1 13 = .ok (.ior, 1) := by decide +kernel
theorem d_m_isTurn_14 : decode M_m_isTurn.2.1 14 = .ok (.iload_n 3, 1) := by decide +kernel
theorem d_m_isTurn_15 : decode M_m_isTurn.2.1 15 = .ok (.invokestatic 81, 3) := by decide +kernel
theorem d_m_isTurn_18 : decode M_m_isTurn.2.1 18 = .ok (.ior, 1) := by decide +kernel
theorem d_m_isTurn_19 : decode M_m_isTurn.2.1 19 = .ok (.bipush 30, 2) := by decide +kernel
theorem d_m_isTurn_21 : decode M_m_isTurn.2.1 21 = .ok (.if_icmp .ne 7, 3) := by decide +kernel
theorem d_m_isTurn_24 : decode M_m_isTurn.2.1 24 = .ok (.iconst 1, 1) := by decide +kernel
theorem d_m_isTurn_25 : decode M_m_isTurn.2.1 25 = .ok (.goto 4, 3) := by decide +kernel
theorem d_m_isTurn_28 : decode M_m_isTurn.2.1 28 = .ok (.iconst 0, 1) := by decide +kernel
theorem d_m_isTurn_29 : decode M_m_isTurn.2.1 29 = .ok (.ireturn, 1) := by decide +kernel
theorem d_m_bit_0 : decode M_m_bit.2.1 0 = .ok (.iload_n 0, 1) := by decide +kernel
theorem d_m_bit_1 : decode M_m_bit.2.1 1 = .ok (.iconst 1, 1) := by decide +kernel
theorem d_m_bit_2 : decode M_m_bit.2.1 2 = .ok (.if_icmp .lt 14, 3) := by decide +kernel
theorem d_m_bit_5 : decode M_m_bit.2.1 5 = .ok (.iload_n 0, 1) := by decide +kernel
theorem d_m_bit_6 : decode M_m_bit.2.1 6 = .ok (.iconst 4, 1) := by decide +kernel
theorem d_m_bit_7 : decode M_m_bit.2.1 7 = .ok (.if_icmp .gt 9, 3) := by decide +kernel
theorem d_m_bit_10 : decode M_m_bit.2.1 10 = .ok (.iconst 1, 1) := by decide +kernel
theorem d_m_bit_11 : decode M_m_bit.2.1 11 = .ok (.iload_n 0, 1) := by decide +kernel
theorem d_m_bit_12 : decode M_m_bit.2.1 12 = .ok (.ishl, 1) := by decide +kernel
theorem d_m_bit_13 : decode M_m_bit.2.1 13 = .ok (.goto 22, 3) := by decide +kernel
theorem d_m_bit_16 : decode M_m_bit.2.1 16 = .ok (.iload_n 0, 1) := by decide +kernel
theorem d_m_bit_17 : decode M_m_bit.2.1 17 = .ok (.iconst (-1), 1) := by decide +kernel
theorem d_m_bit_18 : decode M_m_bit.2.1 18 = .ok (.if_icmp .gt 16, 3) := by decide +kernel
theorem d_m_bit_21 : decode M_m_bit.2.1 21 = .ok (.iload_n 0, 1) := by decide +kernel
theorem d_m_bit_22 : decode M_m_bit.2.1 22 = .ok (.bipush (-4), 2) := by decide +kernel
theorem d_m_bit_24 : decode M_m_bit.2.1 24 = .ok (.if_icmp .lt 10, 3) := by decide +kernel
theorem d_m_bit_27 : decode M_m_bit.2.1 27 = .ok (.iconst 1, 1) := by decide +kernel
theorem d_m_bit_28 : decode M_m_bit.2.1 28 = .ok (.iload_n 0, 1) := by decide +kernel
theorem d_m_bit_29 : decode M_m_bit.2.1 29 = .ok (.ineg, 1) := by decide +kernel
theorem d_m_bit_30 : decode M_m_bit.2.1 30 = .ok (.ishl, 1) := by decide +kernel
theorem d_m_bit_31 : decode M_m_bit.2.1 31 = .ok (.goto 4, 3) := by decide +kernel
theorem d_m_bit_34 : decode M_m_bit.2.1 34 = .ok (.iconst 0, 1) := by decide +kernel
theorem d_m_bit_35 : decode M_m_bit.2.1 35 = .ok (.ireturn, 1) := by decide +kernel
theorem d_m_sample_0 : decode M_m_sample.2.1 0 = .ok (.aload_n 0, 1) := by decide +kernel
theorem d_m_sample_1 : decode M_m_sample.2.1 1 = .ok (.iload_n 1, 1) := by decide +kernel
theorem d_m_sample_2 : decode M_m_sample.2.1 2 = .ok (.iload_n 2, 1) := by decide +kernel
theorem d_m_sample_3 : decode M_m_sample.2.1 3 = .ok (.iload_n 3, 1) := by decide +kernel
theorem d_m_sample_4 : decode M_m_sample.2.1 4 = .ok (.iload 4, 2) := by decide +kernel
theorem d_m_sample_6 : decode M_m_sample.2.1 6 = .ok (.invokevirtual 100, 3) := by decide +kernel
theorem d_m_sample_9 : decode M_m_sample.2.1 9 = .ok (.ifCond .eq 12, 3) := by decide +kernel
theorem d_m_sample_12 : decode M_m_sample.2.1 12 = .ok (.aload_n 0, 1) := by decide +kernel
theorem d_m_sample_13 : decode M_m_sample.2.1 13 = .ok (.getfield 103, 3) := by decide +kernel
theorem d_m_sample_16 : decode M_m_sample.2.1 16 = .ok (.bipush 24, 2) := by decide +kernel
theorem d_m_sample_18 : decode M_m_sample.2.1 18 = .ok (.if_icmp .ne 5, 3) := by decide +kernel
theorem d_m_sample_21 : decode M_m_sample.2.1 21 = .ok (.iconst 0, 1) := by decide +kernel
theorem d_m_sample_22 : decode M_m_sample.2.1 22 = .ok (.ireturn, 1) := by decide +kernel
theorem d_m_sample_23 : decode M_m_sample.2.1 23 = .ok (.iconst 0, 1) := by decide +kernel
theorem d_m_sample_24 : decode M_m_sample.2.1 24 = .ok (.istore 5, 2) := by decide +kernel
theorem d_m_sample_26 : decode M_m_sample.2.1 26 = .ok (.iload 5, 2) := by decide +kernel
theorem d_m_sample_28 : decode M_m_sample.2.1 28 = .ok (.iconst 4, 1) := by decide +kernel
theorem d_m_sample_29 : decode M_m_sample.2.1 29 = .ok (.if_icmp .ge 30, 3) := by decide +kernel
theorem d_m_sample_32 : decode M_m_sample.2.1 32 = .ok (.aload_n 0, 1) := by decide +kernel
theorem d_m_sample_33 : decode M_m_sample.2.1 33 = .ok (.getfield 13, 3) := by decide +kernel
theorem d_m_sample_36 : decode M_m_sample.2.1 36 = .ok (.iconst 4, 1) := by decide +kernel
theorem d_m_sample_37 : decode M_m_sample.2.1 37 = .ok (.aload_n 0, 1) := by decide +kernel
theorem d_m_sample_38 : decode M_m_sample.2.1 38 = .ok (.getfield 103, 3) := by decide +kernel
theorem d_m_sample_41 : decode M_m_sample.2.1 41 = .ok (.imul, 1) := by decide +kernel
theorem d_m_sample_42 : decode M_m_sample.2.1 42 = .ok (.iload 5, 2) := by decide +kernel
theorem d_m_sample_44 : decode M_m_sample.2.1 44 = .ok (.iadd, 1) := by decide +kernel
theorem d_m_sample_45 : decode M_m_sample.2.1 45 = .ok (.aload_n 0, 1) := by decide +kernel
theorem d_m_sample_46 : decode M_m_sample.2.1 46 = .ok (.getfield 38, 3) := by decide +kernel
theorem d_m_sample_49 : decode M_m_sample.2.1 49 = .ok (.iload 5, 2) := by decide +kernel
theorem d_m_sample_51 : decode M_m_sample.2.1 51 = .ok (.iaload, 1) := by decide +kernel
theorem d_m_sample_52 : decode M_m_sample.2.1 52 = .ok (.iastore, 1) := by decide +kernel
theorem d_m_sample_53 : decode M_m_sample.2.1 53 = .ok (.iinc 5 1, 3) := by decide +kernel
theorem d_m_sample_56 : decode M_m_sample.2.1 56 = .ok (.goto (-30), 3) := by decide +kernel
theorem d_m_sample_59 : decode M_m_sample.2.1 59 = .ok (.aload_n 0, 1) := by decide +kernel
theorem d_m_sample_60 : decode M_m_sample.2.1 60 = .ok (.dup, 1) := by decide +kernel
theorem d_m_sample_61 : decode M_m_sample.2.1 61 = .ok (.getfield 103, 3) := by decide +kernel
theorem d_m_sample_64 : decode M_m_sample.2.1 64 = .ok (.iconst 1, 1) := by decide +kernel
theorem d_m_sample_65 : decode M_m_sample.2.1 65 = .ok (.iadd, 1) := by decide +kernel
theorem d_m_sample_66 : decode M_m_sample.2.1 66 = .ok (.putfield 103, 3) := by decide +kernel
theorem d_m_sample_69 : decode M_m_sample.2.1 69 = .ok (.iconst 1, 1) := by decide +kernel
theorem d_m_sample_70 : decode M_m_sample.2.1 70 = .ok (.ireturn, 1) := by decide +kernel
theorem d_m_give_0 : decode M_m_give.2.1 0 = .ok (.aload_n 0, 1) := by decide +kernel
theorem d_m_give_1 : decode M_m_give.2.1 1 = .ok (.getfield 38, 3) := by decide +kernel
theorem d_m_give_4 : decode M_m_give.2.1 4 = .ok (.iconst 0, 1) := by decide +kernel
theorem d_m_give_5 : decode M_m_give.2.1 5 = .ok (.iload_n 1, 1) := by decide +kernel
theorem d_m_give_6 : decode M_m_give.2.1 6 = .ok (.iastore, 1) := by decide +kernel
theorem d_m_give_7 : decode M_m_give.2.1 7 = .ok (.aload_n 0, 1) := by decide +kernel
theorem d_m_give_8 : decode M_m_give.2.1 8 = .ok (.getfield 38, 3) := by decide +kernel
theorem d_m_give_11 : decode M_m_give.2.1 11 = .ok (.iconst 1, 1) := by decide +kernel
theorem d_m_give_12 : decode M_m_give.2.1 12 = .ok (.iload_n 2, 1) := by decide +kernel
theorem d_m_give_13 : decode M_m_give.2.1 13 = .ok (.iastore, 1) := by decide +kernel
theorem d_m_give_14 : decode M_m_give.2.1 14 = .ok (.aload_n 0, 1) := by decide +kernel
theorem d_m_give_15 : decode M_m_give.2.1 15 = .ok (.getfield 38, 3) := by decide +kernel
theorem d_m_give_18 : decode M_m_give.2.1 18 = .ok (.iconst 2, 1) := by decide +kernel
theorem d_m_give_19 : decode M_m_give.2.1 19 = .ok (.iload_n 3, 1) := by decide +kernel
theorem d_m_give_20 : decode M_m_give.2.1 20 = .ok (.iastore, 1) := by decide +kernel
theorem d_m_give_21 : decode M_m_give.2.1 21 = .ok (.aload_n 0, 1) := by decide +kernel
theorem d_m_give_22 : decode M_m_give.2.1 22 = .ok (.getfield 38, 3) := by decide +kernel
theorem d_m_give_25 : decode M_m_give.2.1 25 = .ok (.iconst 3, 1) := by decide +kernel
theorem d_m_give_26 : decode M_m_give.2.1 26 = .ok (.iload 4, 2) := by decide +kernel
theorem d_m_give_28 : decode M_m_give.2.1 28 = .ok (.iastore, 1) := by decide +kernel
theorem d_m_give_29 : decode M_m_give.2.1 29 = .ok (.iload_n 1, 1) := by decide +kernel
theorem d_m_give_30 : decode M_m_give.2.1 30 = .ok (.bipush (-100), 2) := by decide +kernel
theorem d_m_give_32 : decode M_m_give.2.1 32 = .ok (.bipush 100, 2) := by decide +kernel
theorem d_m_give_34 : decode M_m_give.2.1 34 = .ok (.invokestatic 85, 3) := by decide +kernel
theorem d_m_give_37 : decode M_m_give.2.1 37 = .ok (.ifCond .eq 41, 3) := by decide +kernel
theorem d_m_give_40 : decode M_m_give.2.1 40 = .ok (.iload_n 2, 1) := by decide +kernel
theorem d_m_give_41 : decode M_m_give.2.1 41 = .ok (.bipush (-100), 2) := by decide +kernel
theorem d_m_give_43 : decode M_m_give.2.1 43 = .ok (.bipush 100, 2) := by decide +kernel
theorem d_m_give_45 : decode M_m_give.2.1 45 = .ok (.invokestatic 85, 3) := by decide +kernel
theorem d_m_give_48 : decode M_m_give.2.1 48 = .ok (.ifCond .eq 30, 3) := by decide +kernel
theorem d_m_give_51 : decode M_m_give.2.1 51 = .ok (.iload_n 3, 1) := by decide +kernel
theorem d_m_give_52 : decode M_m_give.2.1 52 = .ok (.bipush (-100), 2) := by decide +kernel
theorem d_m_give_54 : decode M_m_give.2.1 54 = .ok (.bipush 100, 2) := by decide +kernel
theorem d_m_give_56 : decode M_m_give.2.1 56 = .ok (.invokestatic 85, 3) := by decide +kernel
theorem d_m_give_59 : decode M_m_give.2.1 59 = .ok (.ifCond .eq 19, 3) := by decide +kernel
theorem d_m_give_62 : decode M_m_give.2.1 62 = .ok (.iload 4, 2) := by decide +kernel
theorem d_m_give_64 : decode M_m_give.2.1 64 = .ok (.bipush (-100), 2) := by decide +kernel
theorem d_m_give_66 : decode M_m_give.2.1 66 = .ok (.bipush 100, 2) := by decide +kernel
theorem d_m_give_68 : decode M_m_give.2.1 68 = .ok (.invokestatic 85, 3) := by decide +kernel
theorem d_m_give_71 : decode M_m_give.2.1 71 = .ok (.ifCond .eq 7, 3) := by decide +kernel
theorem d_m_give_74 : decode M_m_give.2.1 74 = .ok (.iconst 1, 1) := by decide +kernel
theorem d_m_give_75 : decode M_m_give.2.1 75 = .ok (.goto 4, 3) := by decide +kernel
theorem d_m_give_78 : decode M_m_give.2.1 78 = .ok (.iconst 0, 1) := by decide +kernel
theorem d_m_give_79 : decode M_m_give.2.1 79 = .ok (.ireturn, 1) := by decide +kernel
theorem d_m_within_0 : decode M_m_within.2.1 0 = .ok (.iload_n 0, 1) := by decide +kernel
theorem d_m_within_1 : decode M_m_within.2.1 1 = .ok (.iload_n 1, 1) := by decide +kernel
theorem d_m_within_2 : decode M_m_within.2.1 2 = .ok (.if_icmp .lt 12, 3) := by decide +kernel
theorem d_m_within_5 : decode M_m_within.2.1 5 = .ok (.iload_n 0, 1) := by decide +kernel
theorem d_m_within_6 : decode M_m_within.2.1 6 = .ok (.iload_n 2, 1) := by decide +kernel
theorem d_m_within_7 : decode M_m_within.2.1 7 = .ok (.if_icmp .gt 7, 3) := by decide +kernel
theorem d_m_within_10 : decode M_m_within.2.1 10 = .ok (.iconst 1, 1) := by decide +kernel
theorem d_m_within_11 : decode M_m_within.2.1 11 = .ok (.goto 4, 3) := by decide +kernel
theorem d_m_within_14 : decode M_m_within.2.1 14 = .ok (.iconst 0, 1) := by decide +kernel
theorem d_m_within_15 : decode M_m_within.2.1 15 = .ok (.ireturn, 1) := by decide +kernel
theorem d_m_train_0 : decode M_m_train.2.1 0 = .ok (.aload_n 0, 1) := by decide +kernel
theorem d_m_train_1 : decode M_m_train.2.1 1 = .ok (.getfield 103, 3) := by decide +kernel
theorem d_m_train_4 : decode M_m_train.2.1 4 = .ok (.ifCond .eq 10, 3) := by decide +kernel
theorem d_m_train_7 : decode M_m_train.2.1 7 = .ok (.aload_n 0, 1) := by decide +kernel
theorem d_m_train_8 : decode M_m_train.2.1 8 = .ok (.getfield 131, 3) := by decide +kernel
theorem d_m_train_11 : decode M_m_train.2.1 11 = .ok (.ifCond .le 17, 3) := by decide +kernel
theorem d_m_train_14 : decode M_m_train.2.1 14 = .ok (.aload_n 0, 1) := by decide +kernel
theorem d_m_train_15 : decode M_m_train.2.1 15 = .ok (.getfield 103, 3) := by decide +kernel
theorem d_m_train_18 : decode M_m_train.2.1 18 = .ok (.ifCond .ne 7, 3) := by decide +kernel
theorem d_m_train_21 : decode M_m_train.2.1 21 = .ok (.iconst (-1), 1) := by decide +kernel
theorem d_m_train_22 : decode M_m_train.2.1 22 = .ok (.goto 5, 3) := by decide +kernel
theorem d_m_train_25 : decode M_m_train.2.1 25 = .ok (.bipush (-2), 2) := by decide +kernel
theorem d_m_train_27 : decode M_m_train.2.1 27 = .ok (.ireturn, 1) := by decide +kernel
theorem d_m_train_28 : decode M_m_train.2.1 28 = .ok (.iload_n 1, 1) := by decide +kernel
theorem d_m_train_29 : decode M_m_train.2.1 29 = .ok (.iconst 1, 1) := by decide +kernel
theorem d_m_train_30 : decode M_m_train.2.1 30 = .ok (.iconst 4, 1) := by decide +kernel
theorem d_m_train_31 : decode M_m_train.2.1 31 = .ok (.invokestatic 85, 3) := by decide +kernel
theorem d_m_train_34 : decode M_m_train.2.1 34 = .ok (.ifCond .eq 32, 3) := by decide +kernel
theorem d_m_train_37 : decode M_m_train.2.1 37 = .ok (.iload_n 2, 1) := by decide +kernel
theorem d_m_train_38 : decode M_m_train.2.1 38 = .ok (.iconst 0, 1) := by decide +kernel
theorem d_m_train_39 : decode M_m_train.2.1 39 = .ok (.iconst 2, 1) := by decide +kernel
theorem d_m_train_40 : decode M_m_train.2.1 40 = .ok (.invokestatic 85, 3) := by decide +kernel
theorem d_m_train_43 : decode M_m_train.2.1 43 = .ok (.ifCond .eq 23, 3) := by decide +kernel
theorem d_m_train_46 : decode M_m_train.2.1 46 = .ok (.iload_n 3, 1) := by decide +kernel
theorem d_m_train_47 : decode M_m_train.2.1 47 = .ok (.iconst 1, 1) := by decide +kernel
theorem d_m_train_48 : decode M_m_train.2.1 48 = .ok (.iconst 4, 1) := by decide +kernel
theorem d_m_train_49 : decode M_m_train.2.1 49 = .ok (.invokestatic 85, 3) := by decide +kernel
theorem d_m_train_52 : decode M_m_train.2.1 52 = .ok (.ifCond .eq 14, 3) := by decide +kernel
theorem d_m_train_55 : decode M_m_train.2.1 55 = .ok (.iload 4, 2) := by decide +kernel
theorem d_m_train_57 : decode M_m_train.2.1 57 = .ok (.iconst 0, 1) := by decide +kernel
theorem d_m_train_58 : decode M_m_train.2.1 58 = .ok (.bipush 8, 2) := by decide +kernel
theorem d_m_train_60 : decode M_m_train.2.1 60 = .ok (.invokestatic 85, 3) := by decide +kernel
theorem d_m_train_63 : decode M_m_train.2.1 63 = .ok (.ifCond .ne 6, 3) := by decide +kernel
theorem d_m_train_66 : decode M_m_train.2.1 66 = .ok (.bipush (-3), 2) := by decide +kernel
theorem d_m_train_68 : decode M_m_train.2.1 68 = .ok (.ireturn, 1) := by decide +kernel
theorem d_m_train_69 : decode M_m_train.2.1 69 = .ok (.aload_n 0, 1) := by decide +kernel
theorem d_m_train_70 : decode M_m_train.2.1 70 = .ok (.iconst 1, 1) := by decide +kernel
theorem d_m_train_71 : decode M_m_train.2.1 71 = .ok (.putfield 92, 3) := by decide +kernel
theorem d_m_train_74 : decode M_m_train.2.1 74 = .ok (.aload_n 0, 1) := by decide +kernel
theorem d_m_train_75 : decode M_m_train.2.1 75 = .ok (.iload_n 1, 1) := by decide +kernel
theorem d_m_train_76 : decode M_m_train.2.1 76 = .ok (.putfield 134, 3) := by decide +kernel
theorem d_m_train_79 : decode M_m_train.2.1 79 = .ok (.aload_n 0, 1) := by decide +kernel
theorem d_m_train_80 : decode M_m_train.2.1 80 = .ok (.iload_n 2, 1) := by decide +kernel
theorem d_m_train_81 : decode M_m_train.2.1 81 = .ok (.putfield 128, 3) := by decide +kernel
theorem d_m_train_84 : decode M_m_train.2.1 84 = .ok (.aload_n 0, 1) := by decide +kernel
theorem d_m_train_85 : decode M_m_train.2.1 85 = .ok (.iload_n 3, 1) := by decide +kernel
theorem d_m_train_86 : decode M_m_train.2.1 86 = .ok (.putfield 137, 3) := by decide +kernel
theorem d_m_train_89 : decode M_m_train.2.1 89 = .ok (.iconst 0, 1) := by decide +kernel
theorem d_m_train_90 : decode M_m_train.2.1 90 = .ok (.istore 5, 2) := by decide +kernel
theorem d_m_train_92 : decode M_m_train.2.1 92 = .ok (.iload 5, 2) := by decide +kernel
theorem d_m_train_94 : decode M_m_train.2.1 94 = .ok (.aload_n 0, 1) := by decide +kernel
theorem d_m_train_95 : decode M_m_train.2.1 95 = .ok (.getfield 103, 3) := by decide +kernel
theorem d_m_train_98 : decode M_m_train.2.1 98 = .ok (.if_icmp .ge 94, 3) := by decide +kernel
theorem d_m_train_101 : decode M_m_train.2.1 101 = .ok (.aload_n 0, 1) := by decide +kernel
theorem d_m_train_102 : decode M_m_train.2.1 102 = .ok (.aload_n 0, 1) := by decide +kernel
theorem d_m_train_103 : decode M_m_train.2.1 103 = .ok (.getfield 13, 3) := by decide +kernel
theorem d_m_train_106 : decode M_m_train.2.1 106 = .ok (.iconst 4, 1) := by decide +kernel
theorem d_m_train_107 : decode M_m_train.2.1 107 = .ok (.iload 5, 2) := by decide +kernel
theorem d_m_train_109 : decode M_m_train.2.1 109 = .ok (.imul, 1) := by decide +kernel
theorem d_m_train_110 : decode M_m_train.2.1 110 = .ok (.iaload, 1) := by decide +kernel
theorem d_m_train_111 : decode M_m_train.2.1 111 = .ok (.aload_n 0, 1) := by decide +kernel
theorem d_m_train_112 : decode M_m_train.2.1 112 = .ok (.getfield 13, 3) := by decide +kernel
theorem d_m_train_115 : decode M_m_train.2.1 115 = .ok (.iconst 4, 1) := by decide +kernel
theorem d_m_train_116 : decode M_m_train.2.1 116 = .ok (.iload 5, 2) := by decide +kernel
theorem d_m_train_118 : decode M_m_train.2.1 118 = .ok (.imul, 1) := by decide +kernel
theorem d_m_train_119 : decode M_m_train.2.1 119 = .ok (.iconst 1, 1) := by decide +kernel
theorem d_m_train_120 : decode M_m_train.2.1 120 = .ok (.iadd, 1) := by decide +kernel
theorem d_m_train_121 : decode M_m_train.2.1 121 = .ok (.iaload, 1) := by decide +kernel
theorem d_m_train_122 : decode M_m_train.2.1 122 = .ok (.aload_n 0, 1) := by decide +kernel
theorem d_m_train_123 : decode M_m_train.2.1 123 = .ok (.getfield 13, 3) := by decide +kernel
theorem d_m_train_126 : decode M_m_train.2.1 126 = .ok (.iconst 4, 1) := by decide +kernel
theorem d_m_train_127 : decode M_m_train.2.1 127 = .ok (.iload 5, 2) := by decide +kernel
theorem d_m_train_129 : decode M_m_train.2.1 129 = .ok (.imul, 1) := by decide +kernel
theorem d_m_train_130 : decode M_m_train.2.1 130 = .ok (.iconst 2, 1) := by decide +kernel
theorem d_m_train_131 : decode M_m_train.2.1 131 = .ok (.iadd, 1) := by decide +kernel
theorem d_m_train_132 : decode M_m_train.2.1 132 = .ok (.iaload, 1) := by decide +kernel
theorem d_m_train_133 : decode M_m_train.2.1 133 = .ok (.aload_n 0, 1) := by decide +kernel
theorem d_m_train_134 : decode M_m_train.2.1 134 = .ok (.getfield 13, 3) := by decide +kernel
theorem d_m_train_137 : decode M_m_train.2.1 137 = .ok (.iconst 4, 1) := by decide +kernel
theorem d_m_train_138 : decode M_m_train.2.1 138 = .ok (.iload 5, 2) := by decide +kernel
theorem d_m_train_140 : decode M_m_train.2.1 140 = .ok (.imul, 1) := by decide +kernel
theorem d_m_train_141 : decode M_m_train.2.1 141 = .ok (.iconst 3, 1) := by decide +kernel
theorem d_m_train_142 : decode M_m_train.2.1 142 = .ok (.iadd, 1) := by decide +kernel
theorem d_m_train_143 : decode M_m_train.2.1 143 = .ok (.iaload, 1) := by decide +kernel
theorem d_m_train_144 : decode M_m_train.2.1 144 = .ok (.invokevirtual 100, 3) := by decide +kernel
theorem d_m_train_147 : decode M_m_train.2.1 147 = .ok (.pop, 1) := by decide +kernel
theorem d_m_train_148 : decode M_m_train.2.1 148 = .ok (.aload_n 0, 1) := by decide +kernel
theorem d_m_train_149 : decode M_m_train.2.1 149 = .ok (.invokevirtual 89, 3) := by decide +kernel
theorem d_m_train_152 : decode M_m_train.2.1 152 = .ok (.iconst 0, 1) := by decide +kernel
theorem d_m_train_153 : decode M_m_train.2.1 153 = .ok (.istore 6, 2) := by decide +kernel
theorem d_m_train_155 : decode M_m_train.2.1 155 = .ok (.iload 6, 2) := by decide +kernel
theorem d_m_train_157 : decode M_m_train.2.1 157 = .ok (.iconst 4, 1) := by decide +kernel
theorem d_m_train_158 : decode M_m_train.2.1 158 = .ok (.if_icmp .ge 28, 3) := by decide +kernel
theorem d_m_train_161 : decode M_m_train.2.1 161 = .ok (.aload_n 0, 1) := by decide +kernel
theorem d_m_train_162 : decode M_m_train.2.1 162 = .ok (.getfield 50, 3) := by decide +kernel
theorem d_m_train_165 : decode M_m_train.2.1 165 = .ok (.iconst 4, 1) := by decide +kernel
theorem d_m_train_166 : decode M_m_train.2.1 166 = .ok (.iload 5, 2) := by decide +kernel
theorem d_m_train_168 : decode M_m_train.2.1 168 = .ok (.imul, 1) := by decide +kernel
theorem d_m_train_169 : decode M_m_train.2.1 169 = .ok (.iload 6, 2) := by decide +kernel
theorem d_m_train_171 : decode M_m_train.2.1 171 = .ok (.iadd, 1) := by decide +kernel
theorem d_m_train_172 : decode M_m_train.2.1 172 = .ok (.aload_n 0, 1) := by decide +kernel
theorem d_m_train_173 : decode M_m_train.2.1 173 = .ok (.getfield 41, 3) := by decide +kernel
theorem d_m_train_176 : decode M_m_train.2.1 176 = .ok (.iload 6, 2) := by decide +kernel
theorem d_m_train_178 : decode M_m_train.2.1 178 = .ok (.iaload, 1) := by decide +kernel
theorem d_m_train_179 : decode M_m_train.2.1 179 = .ok (.iastore, 1) := by decide +kernel
theorem d_m_train_180 : decode M_m_train.2.1 180 = .ok (.iinc 6 1, 3) := by decide +kernel
theorem d_m_train_183 : decode M_m_train.2.1 183 = .ok (.goto (-28), 3) := by decide +kernel
theorem d_m_train_186 : decode M_m_train.2.1 186 = .ok (.iinc 5 1, 3) := by decide +kernel
theorem d_m_train_189 : decode M_m_train.2.1 189 = .ok (.goto (-97), 3) := by decide +kernel
theorem d_m_train_192 : decode M_m_train.2.1 192 = .ok (.aload_n 0, 1) := by decide +kernel
theorem d_m_train_193 : decode M_m_train.2.1 193 = .ok (.aload_n 0, 1) := by decide +kernel
theorem d_m_train_194 : decode M_m_train.2.1 194 = .ok (.getfield 134, 3) := by decide +kernel
theorem d_m_train_197 : decode M_m_train.2.1 197 = .ok (.iconst 4, 1) := by decide +kernel
theorem d_m_train_198 : decode M_m_train.2.1 198 = .ok (.iload 4, 2) := by decide +kernel
theorem d_m_train_200 : decode M_m_train.2.1 200 = .ok (.invokevirtual 140, 3) := by decide +kernel
theorem d_m_train_203 : decode M_m_train.2.1 203 = .ok (.iconst 0, 1) := by decide +kernel
theorem d_m_train_204 : decode M_m_train.2.1 204 = .ok (.istore 5, 2) := by decide +kernel
theorem d_m_train_206 : decode M_m_train.2.1 206 = .ok (.iload 5, 2) := by decide +kernel
theorem d_m_train_208 : decode M_m_train.2.1 208 = .ok (.iconst 4, 1) := by decide +kernel
theorem d_m_train_209 : decode M_m_train.2.1 209 = .ok (.aload_n 0, 1) := by decide +kernel
theorem d_m_train_210 : decode M_m_train.2.1 210 = .ok (.getfield 134, 3) := by decide +kernel
theorem d_m_train_213 : decode M_m_train.2.1 213 = .ok (.imul, 1) := by decide +kernel
theorem d_m_train_214 : decode M_m_train.2.1 214 = .ok (.if_icmp .ge 23, 3) := by decide +kernel
theorem d_m_train_217 : decode M_m_train.2.1 217 = .ok (.aload_n 0, 1) := by decide +kernel
theorem d_m_train_218 : decode M_m_train.2.1 218 = .ok (.getfield 16, 3) := by decide +kernel
theorem d_m_train_221 : decode M_m_train.2.1 221 = .ok (.iload 5, 2) := by decide +kernel
theorem d_m_train_223 : decode M_m_train.2.1 223 = .ok (.aload_n 0, 1) := by decide +kernel
theorem d_m_train_224 : decode M_m_train.2.1 224 = .ok (.getfield 56, 3) := by decide +kernel
theorem d_m_train_227 : decode M_m_train.2.1 227 = .ok (.iload 5, 2) := by decide +kernel
theorem d_m_train_229 : decode M_m_train.2.1 229 = .ok (.iaload, 1) := by decide +kernel
theorem d_m_train_230 : decode M_m_train.2.1 230 = .ok (.iastore, 1) := by decide +kernel
theorem d_m_train_231 : decode M_m_train.2.1 231 = .ok (.iinc 5 1, 3) := by decide +kernel
theorem d_m_train_234 : decode M_m_train.2.1 234 = .ok (.goto (-28), 3) := by decide +kernel
theorem d_m_train_237 : decode M_m_train.2.1 237 = .ok (.iconst 0, 1) := by decide +kernel
theorem d_m_train_238 : decode M_m_train.2.1 238 = .ok (.istore 5, 2) := by decide +kernel
theorem d_m_train_240 : decode M_m_train.2.1 240 = .ok (.iload 5, 2) := by decide +kernel
theorem d_m_train_242 : decode M_m_train.2.1 242 = .ok (.aload_n 0, 1) := by decide +kernel
theorem d_m_train_243 : decode M_m_train.2.1 243 = .ok (.getfield 103, 3) := by decide +kernel
theorem d_m_train_246 : decode M_m_train.2.1 246 = .ok (.if_icmp .ge 74, 3) := by decide +kernel
theorem d_m_train_249 : decode M_m_train.2.1 249 = .ok (.aload_n 0, 1) := by decide +kernel
theorem d_m_train_250 : decode M_m_train.2.1 250 = .ok (.iload 5, 2) := by decide +kernel
theorem d_m_train_252 : decode M_m_train.2.1 252 = .ok (.aload_n 0, 1) := by decide +kernel
theorem d_m_train_253 : decode M_m_train.2.1 253 = .ok (.getfield 134, 3) := by decide +kernel
theorem d_m_train_256 : decode M_m_train.2.1 256 = .ok (.iconst 4, 1) := by decide +kernel
theorem d_m_train_257 : decode M_m_train.2.1 257 = .ok (.invokevirtual 110, 3) := by decide +kernel
theorem d_m_train_260 : decode M_m_train.2.1 260 = .ok (.istore 6, 2) := by decide +kernel
theorem d_m_train_262 : decode M_m_train.2.1 262 = .ok (.iconst 0, 1) := by decide +kernel
theorem d_m_train_263 : decode M_m_train.2.1 263 = .ok (.istore 7, 2) := by decide +kernel
theorem d_m_train_265 : decode M_m_train.2.1 265 = .ok (.iload 7, 2) := by decide +kernel
theorem d_m_train_267 : decode M_m_train.2.1 267 = .ok (.iconst 4, 1) := by decide +kernel
theorem d_m_train_268 : decode M_m_train.2.1 268 = .ok (.if_icmp .ge 46, 3) := by decide +kernel
theorem d_m_train_271 : decode M_m_train.2.1 271 = .ok (.aload_n 0, 1) := by decide +kernel
theorem d_m_train_272 : decode M_m_train.2.1 272 = .ok (.getfield 53, 3) := by decide +kernel
theorem d_m_train_275 : decode M_m_train.2.1 275 = .ok (.iconst 4, 1) := by decide +kernel
theorem d_m_train_276 : decode M_m_train.2.1 276 = .ok (.iload 5, 2) := by decide +kernel
theorem d_m_train_278 : decode M_m_train.2.1 278 = .ok (.imul, 1) := by decide +kernel
theorem d_m_train_279 : decode M_m_train.2.1 279 = .ok (.iload 7, 2) := by decide +kernel
theorem d_m_train_281 : decode M_m_train.2.1 281 = .ok (.iadd, 1) := by decide +kernel
theorem d_m_train_282 : decode M_m_train.2.1 282 = .ok (.aload_n 0, 1) := by decide +kernel
theorem d_m_train_283 : decode M_m_train.2.1 283 = .ok (.getfield 50, 3) := by decide +kernel
theorem d_m_train_286 : decode M_m_train.2.1 286 = .ok (.iconst 4, 1) := by decide +kernel
theorem d_m_train_287 : decode M_m_train.2.1 287 = .ok (.iload 5, 2) := by decide +kernel
theorem d_m_train_289 : decode M_m_train.2.1 289 = .ok (.imul, 1) := by decide +kernel
theorem d_m_train_290 : decode M_m_train.2.1 290 = .ok (.iload 7, 2) := by decide +kernel
theorem d_m_train_292 : decode M_m_train.2.1 292 = .ok (.iadd, 1) := by decide +kernel
theorem d_m_train_293 : decode M_m_train.2.1 293 = .ok (.iaload, 1) := by decide +kernel
theorem d_m_train_294 : decode M_m_train.2.1 294 = .ok (.aload_n 0, 1) := by decide +kernel
theorem d_m_train_295 : decode M_m_train.2.1 295 = .ok (.getfield 56, 3) := by decide +kernel
theorem d_m_train_298 : decode M_m_train.2.1 298 = .ok (.iconst 4, 1) := by decide +kernel
theorem d_m_train_299 : decode M_m_train.2.1 299 = .ok (.iload 6, 2) := by decide +kernel
theorem d_m_train_301 : decode M_m_train.2.1 301 = .ok (.imul, 1) := by decide +kernel
theorem d_m_train_302 : decode M_m_train.2.1 302 = .ok (.iload 7, 2) := by decide +kernel
theorem d_m_train_304 : decode M_m_train.2.1 304 = .ok (.iadd, 1) := by decide +kernel
theorem d_m_train_305 : decode M_m_train.2.1 305 = .ok (.iaload, 1) := by decide +kernel
theorem d_m_train_306 : decode M_m_train.2.1 306 = .ok (.isub, 1) := by decide +kernel
theorem d_m_train_307 : decode M_m_train.2.1 307 = .ok (.iastore, 1) := by decide +kernel
theorem d_m_train_308 : decode M_m_train.2.1 308 = .ok (.iinc 7 1, 3) := by decide +kernel
theorem d_m_train_311 : decode M_m_train.2.1 311 = .ok (.goto (-46), 3) := by decide +kernel
theorem d_m_train_314 : decode M_m_train.2.1 314 = .ok (.iinc 5 1, 3) := by decide +kernel
theorem d_m_train_317 : decode M_m_train.2.1 317 = .ok (.goto (-77), 3) := by decide +kernel
theorem d_m_train_320 : decode M_m_train.2.1 320 = .ok (.iconst 0, 1) := by decide +kernel
theorem d_m_train_321 : decode M_m_train.2.1 321 = .ok (.istore 5, 2) := by decide +kernel
theorem d_m_train_323 : decode M_m_train.2.1 323 = .ok (.iload 5, 2) := by decide +kernel
theorem d_m_train_325 : decode M_m_train.2.1 325 = .ok (.aload_n 0, 1) := by decide +kernel
theorem d_m_train_326 : decode M_m_train.2.1 326 = .ok (.invokevirtual 144, 3) := by decide +kernel
theorem d_m_train_329 : decode M_m_train.2.1 329 = .ok (.if_icmp .ge 33, 3) := by decide +kernel
theorem d_m_train_332 : decode M_m_train.2.1 332 = .ok (.aload_n 0, 1) := by decide +kernel
theorem d_m_train_333 : decode M_m_train.2.1 333 = .ok (.getfield 128, 3) := by decide +kernel
theorem d_m_train_336 : decode M_m_train.2.1 336 = .ok (.ifCond .ne 14, 3) := by decide +kernel
theorem d_m_train_339 : decode M_m_train.2.1 339 = .ok (.aload_n 0, 1) := by decide +kernel
theorem d_m_train_340 : decode M_m_train.2.1 340 = .ok (.iload 5, 2) := by decide +kernel
theorem d_m_train_342 : decode M_m_train.2.1 342 = .ok (.iload 4, 2) := by decide +kernel
theorem d_m_train_344 : decode M_m_train.2.1 344 = .ok (.invokevirtual 148, 3) := by decide +kernel
theorem d_m_train_347 : decode M_m_train.2.1 347 = .ok (.goto 9, 3) := by decide +kernel
theorem d_m_train_350 : decode M_m_train.2.1 350 = .ok (.aload_n 0, 1) := by decide +kernel
theorem d_m_train_351 : decode M_m_train.2.1 351 = .ok (.iload 5, 2) := by decide +kernel
theorem d_m_train_353 : decode M_m_train.2.1 353 = .ok (.invokevirtual 151, 3) := by decide +kernel
theorem d_m_train_356 : decode M_m_train.2.1 356 = .ok (.iinc 5 1, 3) := by decide +kernel
theorem d_m_train_359 : decode M_m_train.2.1 359 = .ok (.goto (-36), 3) := by decide +kernel
theorem d_m_train_362 : decode M_m_train.2.1 362 = .ok (.aload_n 0, 1) := by decide +kernel
theorem d_m_train_363 : decode M_m_train.2.1 363 = .ok (.invokevirtual 155, 3) := by decide +kernel
theorem d_m_train_366 : decode M_m_train.2.1 366 = .ok (.ireturn, 1) := by decide +kernel
theorem d_m_turnIt_0 : decode M_m_turnIt.2.1 0 = .ok (.iconst 0, 1) := by decide +kernel
theorem d_m_turnIt_1 : decode M_m_turnIt.2.1 1 = .ok (.istore_n 1, 1) := by decide +kernel
theorem d_m_turnIt_2 : decode M_m_turnIt.2.1 2 = .ok (.iload_n 1, 1) := by decide +kernel
theorem d_m_turnIt_3 : decode M_m_turnIt.2.1 3 = .ok (.iconst 4, 1) := by decide +kernel
theorem d_m_turnIt_4 : decode M_m_turnIt.2.1 4 = .ok (.if_icmp .ge 55, 3) := by decide +kernel
theorem d_m_turnIt_7 : decode M_m_turnIt.2.1 7 = .ok (.aload_n 0, 1) := by decide +kernel
theorem d_m_turnIt_8 : decode M_m_turnIt.2.1 8 = .ok (.getfield 41, 3) := by decide +kernel
theorem d_m_turnIt_11 : decode M_m_turnIt.2.1 11 = .ok (.iload_n 1, 1) := by decide +kernel
theorem d_m_turnIt_12 : decode M_m_turnIt.2.1 12 = .ok (.aload_n 0, 1) := by decide +kernel
theorem d_m_turnIt_13 : decode M_m_turnIt.2.1 13 = .ok (.getfield 7, 3) := by decide +kernel
theorem d_m_turnIt_16 : decode M_m_turnIt.2.1 16 = .ok (.iload_n 1, 1) := by decide +kernel
theorem d_m_turnIt_17 : decode M_m_turnIt.2.1 17 = .ok (.iaload, 1) := by decide +kernel
theorem d_m_turnIt_18 : decode M_m_turnIt.2.1 18 = .ok (.ifCond .ge 21, 3) := by decide +kernel
theorem d_m_turnIt_21 : decode M_m_turnIt.2.1 21 = .ok (.aload_n 0, 1) := by decide +kernel
theorem d_m_turnIt_22 : decode M_m_turnIt.2.1 22 = .ok (.getfield 38, 3) := by decide +kernel
theorem d_m_turnIt_25 : decode M_m_turnIt.2.1 25 = .ok (.aload_n 0, 1) := by decide +kernel
theorem d_m_turnIt_26 : decode M_m_turnIt.2.1 26 = .ok (.getfield 7, 3) := by decide +kernel
theorem d_m_turnIt_29 : decode M_m_turnIt.2.1 29 = .ok (.iload_n 1, 1) := by decide +kernel
theorem d_m_turnIt_30 : decode M_m_turnIt.2.1 30 = .ok (.iaload, 1) := by decide +kernel
theorem d_m_turnIt_31 : decode M_m_turnIt.2.1 31 = .ok (.ineg, 1) := by decide +kernel
theorem d_m_turnIt_32 : decode M_m_turnIt.2.1 32 = .ok (.iconst 1, 1) := by decide +kernel
theorem d_m_turnIt_33 : decode M_m_turnIt.2.1 33 = .ok (.isub, 1) := by decide +kernel
theorem d_m_turnIt_34 : decode M_m_turnIt.2.1 34 = .ok (.iaload, 1) := by decide +kernel
theorem d_m_turnIt_35 : decode M_m_turnIt.2.1 35 = .ok (.ineg, 1) := by decide +kernel
theorem d_m_turnIt_36 : decode M_m_turnIt.2.1 36 = .ok (.goto 16, 3) := by decide +kernel
theorem d_m_turnIt_39 : decode M_m_turnIt.2.1 39 = .ok (.aload_n 0, 1) := by decide +kernel
theorem d_m_turnIt_40 : decode M_m_turnIt.2.1 40 = .ok (.getfield 38, 3) := by decide +kernel
theorem d_m_turnIt_43 : decode M_m_turnIt.2.1 43 = .ok (.aload_n 0, 1) := by decide +kernel
theorem d_m_turnIt_44 : decode M_m_turnIt.2.1 44 = .ok (.getfield 7, 3) := by decide +kernel
theorem d_m_turnIt_47 : decode M_m_turnIt.2.1 47 = .ok (.iload_n 1, 1) := by decide +kernel
theorem d_m_turnIt_48 : decode M_m_turnIt.2.1 48 = .ok (.iaload, 1) := by decide +kernel
theorem d_m_turnIt_49 : decode M_m_turnIt.2.1 49 = .ok (.iconst 1, 1) := by decide +kernel
theorem d_m_turnIt_50 : decode M_m_turnIt.2.1 50 = .ok (.isub, 1) := by decide +kernel
theorem d_m_turnIt_51 : decode M_m_turnIt.2.1 51 = .ok (.iaload, 1) := by decide +kernel
theorem d_m_turnIt_52 : decode M_m_turnIt.2.1 52 = .ok (.iastore, 1) := by decide +kernel
theorem d_m_turnIt_53 : decode M_m_turnIt.2.1 53 = .ok (.iinc 1 1, 3) := by decide +kernel
theorem d_m_turnIt_56 : decode M_m_turnIt.2.1 56 = .ok (.goto (-54), 3) := by decide +kernel
theorem d_m_turnIt_59 : decode M_m_turnIt.2.1 59 = .ok (.return_, 1) := by decide +kernel
theorem d_m_cluster_0 : decode M_m_cluster.2.1 0 = .ok (.iconst 0, 1) := by decide +kernel
theorem d_m_cluster_1 : decode M_m_cluster.2.1 1 = .ok (.istore 4, 2) := by decide +kernel
theorem d_m_cluster_3 : decode M_m_cluster.2.1 3 = .ok (.iload 4, 2) := by decide +kernel
theorem d_m_cluster_5 : decode M_m_cluster.2.1 5 = .ok (.iload_n 1, 1) := by decide +kernel
theorem d_m_cluster_6 : decode M_m_cluster.2.1 6 = .ok (.if_icmp .ge 114, 3) := by decide +kernel
theorem d_m_cluster_9 : decode M_m_cluster.2.1 9 = .ok (.iconst 0, 1) := by decide +kernel
theorem d_m_cluster_10 : decode M_m_cluster.2.1 10 = .ok (.istore 5, 2) := by decide +kernel
theorem d_m_cluster_12 : decode M_m_cluster.2.1 12 = .ok (.iconst (-1), 1) := by decide +kernel
theorem d_m_cluster_13 : decode M_m_cluster.2.1 13 = .ok (.istore 6, 2) := by decide +kernel
theorem d_m_cluster_15 : decode M_m_cluster.2.1 15 = .ok (.iconst 0, 1) := by decide +kernel
theorem d_m_cluster_16 : decode M_m_cluster.2.1 16 = .ok (.istore 7, 2) := by decide +kernel
theorem d_m_cluster_18 : decode M_m_cluster.2.1 18 = .ok (.iload 7, 2) := by decide +kernel
theorem d_m_cluster_20 : decode M_m_cluster.2.1 20 = .ok (.aload_n 0, 1) := by decide +kernel
theorem d_m_cluster_21 : decode M_m_cluster.2.1 21 = .ok (.getfield 103, 3) := by decide +kernel
theorem d_m_cluster_24 : decode M_m_cluster.2.1 24 = .ok (.if_icmp .ge 51, 3) := by decide +kernel
theorem d_m_cluster_27 : decode M_m_cluster.2.1 27 = .ok (.iload 4, 2) := by decide +kernel
theorem d_m_cluster_29 : decode M_m_cluster.2.1 29 = .ok (.ifCond .le 46, 3) := by decide +kernel
theorem d_m_cluster_32 : decode M_m_cluster.2.1 32 = .ok (.aload_n 0, 1) := by decide +kernel
theorem d_m_cluster_33 : decode M_m_cluster.2.1 33 = .ok (.iload 7, 2) := by decide +kernel
theorem d_m_cluster_35 : decode M_m_cluster.2.1 35 = .ok (.iload 4, 2) := by decide +kernel
theorem d_m_cluster_37 : decode M_m_cluster.2.1 37 = .ok (.iload_n 2, 1) := by decide +kernel
theorem d_m_cluster_38 : decode M_m_cluster.2.1 38 = .ok (.invokevirtual 110, 3) := by decide +kernel
theorem d_m_cluster_41 : decode M_m_cluster.2.1 41 = .ok (.istore 8, 2) := by decide +kernel
theorem d_m_cluster_43 : decode M_m_cluster.2.1 43 = .ok (.aload_n 0, 1) := by decide +kernel
theorem d_m_cluster_44 : decode M_m_cluster.2.1 44 = .ok (.iload 7, 2) := by decide +kernel
theorem d_m_cluster_46 : decode M_m_cluster.2.1 46 = .ok (.iload 8, 2) := by decide +kernel
theorem d_m_cluster_48 : decode M_m_cluster.2.1 48 = .ok (.iload_n 2, 1) := by decide +kernel
theorem d_m_cluster_49 : decode M_m_cluster.2.1 49 = .ok (.invokevirtual 106, 3) := by decide +kernel
theorem d_m_cluster_52 : decode M_m_cluster.2.1 52 = .ok (.istore 9, 2) := by decide +kernel
theorem d_m_cluster_54 : decode M_m_cluster.2.1 54 = .ok (.iload 9, 2) := by decide +kernel
theorem d_m_cluster_56 : decode M_m_cluster.2.1 56 = .ok (.iload 6, 2) := by decide +kernel
theorem d_m_cluster_58 : decode M_m_cluster.2.1 58 = .ok (.if_icmp .le 11, 3) := by decide +kernel
theorem d_m_cluster_61 : decode M_m_cluster.2.1 61 = .ok (.iload 9, 2) := by decide +kernel
theorem d_m_cluster_63 : decode M_m_cluster.2.1 63 = .ok (.istore 6, 2) := by decide +kernel
theorem d_m_cluster_65 : decode M_m_cluster.2.1 65 = .ok (.iload 7, 2) := by decide +kernel
theorem d_m_cluster_67 : decode M_m_cluster.2.1 67 = .ok (.istore 5, 2) := by decide +kernel
theorem d_m_cluster_69 : decode M_m_cluster.2.1 69 = .ok (.iinc 7 1, 3) := by decide +kernel
theorem d_m_cluster_72 : decode M_m_cluster.2.1 72 = .ok (.goto (-54), 3) := by decide +kernel
theorem d_m_cluster_75 : decode M_m_cluster.2.1 75 = .ok (.iconst 0, 1) := by decide +kernel
theorem d_m_cluster_76 : decode M_m_cluster.2.1 76 = .ok (.istore 7, 2) := by decide +kernel
theorem d_m_cluster_78 : decode M_m_cluster.2.1 78 = .ok (.iload 7, 2) := by decide +kernel
theorem d_m_cluster_80 : decode M_m_cluster.2.1 80 = .ok (.iconst 4, 1) := by decide +kernel
