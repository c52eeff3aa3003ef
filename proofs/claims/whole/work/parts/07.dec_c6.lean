theorem d_y_fault_19 : decode M_y_fault.2.1 19 = .ok (.if_icmp .eq 5, 3) := by decide +kernel
theorem d_y_fault_22 : decode M_y_fault.2.1 22 = .ok (.iconst 2, 1) := by decide +kernel
theorem d_y_fault_23 : decode M_y_fault.2.1 23 = .ok (.ireturn, 1) := by decide +kernel
theorem d_y_fault_24 : decode M_y_fault.2.1 24 = .ok (.aload_n 0, 1) := by decide +kernel
theorem d_y_fault_25 : decode M_y_fault.2.1 25 = .ok (.getfield 11, 3) := by decide +kernel
theorem d_y_fault_28 : decode M_y_fault.2.1 28 = .ok (.iconst 1, 1) := by decide +kernel
theorem d_y_fault_29 : decode M_y_fault.2.1 29 = .ok (.iaload, 1) := by decide +kernel
theorem d_y_fault_30 : decode M_y_fault.2.1 30 = .ok (.iconst 1, 1) := by decide +kernel
theorem d_y_fault_31 : decode M_y_fault.2.1 31 = .ok (.if_icmp .eq 5, 3) := by decide +kernel
theorem d_y_fault_34 : decode M_y_fault.2.1 34 = .ok (.iconst 3, 1) := by decide +kernel
theorem d_y_fault_35 : decode M_y_fault.2.1 35 = .ok (.ireturn, 1) := by decide +kernel
theorem d_y_fault_36 : decode M_y_fault.2.1 36 = .ok (.aload_n 0, 1) := by decide +kernel
theorem d_y_fault_37 : decode M_y_fault.2.1 37 = .ok (.invokevirtual 30, 3) := by decide +kernel
theorem d_y_fault_40 : decode M_y_fault.2.1 40 = .ok (.ifCond .ne 5, 3) := by decide +kernel
theorem d_y_fault_43 : decode M_y_fault.2.1 43 = .ok (.iconst 4, 1) := by decide +kernel
theorem d_y_fault_44 : decode M_y_fault.2.1 44 = .ok (.ireturn, 1) := by decide +kernel
theorem d_y_fault_45 : decode M_y_fault.2.1 45 = .ok (.aload_n 0, 1) := by decide +kernel
theorem d_y_fault_46 : decode M_y_fault.2.1 46 = .ok (.iconst 0, 1) := by decide +kernel
theorem d_y_fault_47 : decode M_y_fault.2.1 47 = .ok (.invokevirtual 34, 3) := by decide +kernel
theorem d_y_fault_50 : decode M_y_fault.2.1 50 = .ok (.aload_n 0, 1) := by decide +kernel
theorem d_y_fault_51 : decode M_y_fault.2.1 51 = .ok (.iconst 1, 1) := by decide +kernel
theorem d_y_fault_52 : decode M_y_fault.2.1 52 = .ok (.invokevirtual 34, 3) := by decide +kernel
theorem d_y_fault_55 : decode M_y_fault.2.1 55 = .ok (.aload_n 0, 1) := by decide +kernel
theorem d_y_fault_56 : decode M_y_fault.2.1 56 = .ok (.iconst 2, 1) := by decide +kernel
theorem d_y_fault_57 : decode M_y_fault.2.1 57 = .ok (.invokevirtual 34, 3) := by decide +kernel
theorem d_y_fault_60 : decode M_y_fault.2.1 60 = .ok (.aload_n 0, 1) := by decide +kernel
theorem d_y_fault_61 : decode M_y_fault.2.1 61 = .ok (.iconst 3, 1) := by decide +kernel
theorem d_y_fault_62 : decode M_y_fault.2.1 62 = .ok (.invokevirtual 34, 3) := by decide +kernel
theorem d_y_fault_65 : decode M_y_fault.2.1 65 = .ok (.invokestatic 37, 3) := by decide +kernel
theorem d_y_fault_68 : decode M_y_fault.2.1 68 = .ok (.ifCond .ne 5, 3) := by decide +kernel
theorem d_y_fault_71 : decode M_y_fault.2.1 71 = .ok (.iconst 5, 1) := by decide +kernel
theorem d_y_fault_72 : decode M_y_fault.2.1 72 = .ok (.ireturn, 1) := by decide +kernel
theorem d_y_fault_73 : decode M_y_fault.2.1 73 = .ok (.aload_n 0, 1) := by decide +kernel
theorem d_y_fault_74 : decode M_y_fault.2.1 74 = .ok (.getfield 15, 3) := by decide +kernel
theorem d_y_fault_77 : decode M_y_fault.2.1 77 = .ok (.aload_n 0, 1) := by decide +kernel
theorem d_y_fault_78 : decode M_y_fault.2.1 78 = .ok (.aload_n 0, 1) := by decide +kernel
theorem d_y_fault_79 : decode M_y_fault.2.1 79 = .ok (.getfield 11, 3) := by decide +kernel
theorem d_y_fault_82 : decode M_y_fault.2.1 82 = .ok (.iconst 5, 1) := by decide +kernel
theorem d_y_fault_83 : decode M_y_fault.2.1 83 = .ok (.iaload, 1) := by decide +kernel
theorem d_y_fault_84 : decode M_y_fault.2.1 84 = .ok (.invokevirtual 27, 3) := by decide +kernel
theorem d_y_fault_87 : decode M_y_fault.2.1 87 = .ok (.iconst 1, 1) := by decide +kernel
theorem d_y_fault_88 : decode M_y_fault.2.1 88 = .ok (.iadd, 1) := by decide +kernel
theorem d_y_fault_89 : decode M_y_fault.2.1 89 = .ok (.if_icmp .eq 6, 3) := by decide +kernel
theorem d_y_fault_92 : decode M_y_fault.2.1 92 = .ok (.bipush 6, 2) := by decide +kernel
theorem d_y_fault_94 : decode M_y_fault.2.1 94 = .ok (.ireturn, 1) := by decide +kernel
theorem d_y_fault_95 : decode M_y_fault.2.1 95 = .ok (.aload_n 0, 1) := by decide +kernel
theorem d_y_fault_96 : decode M_y_fault.2.1 96 = .ok (.getfield 11, 3) := by decide +kernel
theorem d_y_fault_99 : decode M_y_fault.2.1 99 = .ok (.aload_n 0, 1) := by decide +kernel
theorem d_y_fault_100 : decode M_y_fault.2.1 100 = .ok (.getfield 15, 3) := by decide +kernel
theorem d_y_fault_103 : decode M_y_fault.2.1 103 = .ok (.iconst 1, 1) := by decide +kernel
theorem d_y_fault_104 : decode M_y_fault.2.1 104 = .ok (.isub, 1) := by decide +kernel
theorem d_y_fault_105 : decode M_y_fault.2.1 105 = .ok (.iaload, 1) := by decide +kernel
theorem d_y_fault_106 : decode M_y_fault.2.1 106 = .ok (.aload_n 0, 1) := by decide +kernel
theorem d_y_fault_107 : decode M_y_fault.2.1 107 = .ok (.aload_n 0, 1) := by decide +kernel
theorem d_y_fault_108 : decode M_y_fault.2.1 108 = .ok (.getfield 15, 3) := by decide +kernel
theorem d_y_fault_111 : decode M_y_fault.2.1 111 = .ok (.iconst 1, 1) := by decide +kernel
theorem d_y_fault_112 : decode M_y_fault.2.1 112 = .ok (.isub, 1) := by decide +kernel
theorem d_y_fault_113 : decode M_y_fault.2.1 113 = .ok (.invokevirtual 43, 3) := by decide +kernel
theorem d_y_fault_116 : decode M_y_fault.2.1 116 = .ok (.if_icmp .eq 6, 3) := by decide +kernel
theorem d_y_fault_119 : decode M_y_fault.2.1 119 = .ok (.bipush 7, 2) := by decide +kernel
theorem d_y_fault_121 : decode M_y_fault.2.1 121 = .ok (.ireturn, 1) := by decide +kernel
theorem d_y_fault_122 : decode M_y_fault.2.1 122 = .ok (.aload_n 0, 1) := by decide +kernel
theorem d_y_fault_123 : decode M_y_fault.2.1 123 = .ok (.invokevirtual 46, 3) := by decide +kernel
theorem d_y_fault_126 : decode M_y_fault.2.1 126 = .ok (.ifCond .ne 6, 3) := by decide +kernel
theorem d_y_fault_129 : decode M_y_fault.2.1 129 = .ok (.bipush 8, 2) := by decide +kernel
theorem d_y_fault_131 : decode M_y_fault.2.1 131 = .ok (.ireturn, 1) := by decide +kernel
theorem d_y_fault_132 : decode M_y_fault.2.1 132 = .ok (.aload_n 0, 1) := by decide +kernel
theorem d_y_fault_133 : decode M_y_fault.2.1 133 = .ok (.invokevirtual 49, 3) := by decide +kernel
theorem d_y_fault_136 : decode M_y_fault.2.1 136 = .ok (.ifCond .eq 7, 3) := by decide +kernel
theorem d_y_fault_139 : decode M_y_fault.2.1 139 = .ok (.iconst 0, 1) := by decide +kernel
theorem d_y_fault_140 : decode M_y_fault.2.1 140 = .ok (.goto 5, 3) := by decide +kernel
theorem d_y_fault_143 : decode M_y_fault.2.1 143 = .ok (.bipush 9, 2) := by decide +kernel
theorem d_y_fault_145 : decode M_y_fault.2.1 145 = .ok (.ireturn, 1) := by decide +kernel
theorem d_y_hasSizes_0 : decode M_y_hasSizes.2.1 0 = .ok (.aload_n 0, 1) := by decide +kernel
theorem d_y_hasSizes_1 : decode M_y_hasSizes.2.1 1 = .ok (.getfield 11, 3) := by decide +kernel
theorem d_y_hasSizes_4 : decode M_y_hasSizes.2.1 4 = .ok (.iconst 2, 1) := by decide +kernel
theorem d_y_hasSizes_5 : decode M_y_hasSizes.2.1 5 = .ok (.iaload, 1) := by decide +kernel
theorem d_y_hasSizes_6 : decode M_y_hasSizes.2.1 6 = .ok (.iconst 0, 1) := by decide +kernel
theorem d_y_hasSizes_7 : decode M_y_hasSizes.2.1 7 = .ok (.iconst 2, 1) := by decide +kernel
theorem d_y_hasSizes_8 : decode M_y_hasSizes.2.1 8 = .ok (.invokestatic 52, 3) := by decide +kernel
theorem d_y_hasSizes_11 : decode M_y_hasSizes.2.1 11 = .ok (.ifCond .eq 50, 3) := by decide +kernel
theorem d_y_hasSizes_14 : decode M_y_hasSizes.2.1 14 = .ok (.aload_n 0, 1) := by decide +kernel
theorem d_y_hasSizes_15 : decode M_y_hasSizes.2.1 15 = .ok (.getfield 11, 3) := by decide +kernel
theorem d_y_hasSizes_18 : decode M_y_hasSizes.2.1 18 = .ok (.iconst 3, 1) := by decide +kernel
theorem d_y_hasSizes_19 : decode M_y_hasSizes.2.1 19 = .ok (.iaload, 1) := by decide +kernel
theorem d_y_hasSizes_20 : decode M_y_hasSizes.2.1 20 = .ok (.iconst 1, 1) := by decide +kernel
theorem d_y_hasSizes_21 : decode M_y_hasSizes.2.1 21 = .ok (.iconst 4, 1) := by decide +kernel
theorem d_y_hasSizes_22 : decode M_y_hasSizes.2.1 22 = .ok (.invokestatic 52, 3) := by decide +kernel
theorem d_y_hasSizes_25 : decode M_y_hasSizes.2.1 25 = .ok (.ifCond .eq 36, 3) := by decide +kernel
theorem d_y_hasSizes_28 : decode M_y_hasSizes.2.1 28 = .ok (.aload_n 0, 1) := by decide +kernel
theorem d_y_hasSizes_29 : decode M_y_hasSizes.2.1 29 = .ok (.getfield 11, 3) := by decide +kernel
theorem d_y_hasSizes_32 : decode M_y_hasSizes.2.1 32 = .ok (.iconst 4, 1) := by decide +kernel
theorem d_y_hasSizes_33 : decode M_y_hasSizes.2.1 33 = .ok (.iaload, 1) := by decide +kernel
theorem d_y_hasSizes_34 : decode M_y_hasSizes.2.1 34 = .ok (.iconst 1, 1) := by decide +kernel
theorem d_y_hasSizes_35 : decode M_y_hasSizes.2.1 35 = .ok (.iconst 4, 1) := by decide +kernel
theorem d_y_hasSizes_36 : decode M_y_hasSizes.2.1 36 = .ok (.invokestatic 52, 3) := by decide +kernel
theorem d_y_hasSizes_39 : decode M_y_hasSizes.2.1 39 = .ok (.ifCond .eq 22, 3) := by decide +kernel
theorem d_y_hasSizes_42 : decode M_y_hasSizes.2.1 42 = .ok (.aload_n 0, 1) := by decide +kernel
theorem d_y_hasSizes_43 : decode M_y_hasSizes.2.1 43 = .ok (.getfield 11, 3) := by decide +kernel
theorem d_y_hasSizes_46 : decode M_y_hasSizes.2.1 46 = .ok (.iconst 5, 1) := by decide +kernel
theorem d_y_hasSizes_47 : decode M_y_hasSizes.2.1 47 = .ok (.iaload, 1) := by decide +kernel
theorem d_y_hasSizes_48 : decode M_y_hasSizes.2.1 48 = .ok (.iconst 0, 1) := by decide +kernel
theorem d_y_hasSizes_49 : decode M_y_hasSizes.2.1 49 = .ok (.bipush 20, 2) := by decide +kernel
theorem d_y_hasSizes_51 : decode M_y_hasSizes.2.1 51 = .ok (.invokestatic 52, 3) := by decide +kernel
theorem d_y_hasSizes_54 : decode M_y_hasSizes.2.1 54 = .ok (.ifCond .eq 7, 3) := by decide +kernel
theorem d_y_hasSizes_57 : decode M_y_hasSizes.2.1 57 = .ok (.iconst 1, 1) := by decide +kernel
theorem d_y_hasSizes_58 : decode M_y_hasSizes.2.1 58 = .ok (.goto 4, 3) := by decide +kernel
theorem d_y_hasSizes_61 : decode M_y_hasSizes.2.1 61 = .ok (.iconst 0, 1) := by decide +kernel
theorem d_y_hasSizes_62 : decode M_y_hasSizes.2.1 62 = .ok (.ireturn, 1) := by decide +kernel
theorem d_y_step_0 : decode M_y_step.2.1 0 = .ok (.aload_n 0, 1) := by decide +kernel
theorem d_y_step_1 : decode M_y_step.2.1 1 = .ok (.getfield 11, 3) := by decide +kernel
theorem d_y_step_4 : decode M_y_step.2.1 4 = .ok (.bipush 6, 2) := by decide +kernel
theorem d_y_step_6 : decode M_y_step.2.1 6 = .ok (.iload_n 1, 1) := by decide +kernel
theorem d_y_step_7 : decode M_y_step.2.1 7 = .ok (.iadd, 1) := by decide +kernel
theorem d_y_step_8 : decode M_y_step.2.1 8 = .ok (.iaload, 1) := by decide +kernel
theorem d_y_step_9 : decode M_y_step.2.1 9 = .ok (.iconst 4, 1) := by decide +kernel
theorem d_y_step_10 : decode M_y_step.2.1 10 = .ok (.isub, 1) := by decide +kernel
theorem d_y_step_11 : decode M_y_step.2.1 11 = .ok (.ireturn, 1) := by decide +kernel
theorem d_y_entryStart_0 : decode M_y_entryStart.2.1 0 = .ok (.bipush 10, 2) := by decide +kernel
theorem d_y_entryStart_2 : decode M_y_entryStart.2.1 2 = .ok (.iconst 2, 1) := by decide +kernel
theorem d_y_entryStart_3 : decode M_y_entryStart.2.1 3 = .ok (.aload_n 0, 1) := by decide +kernel
theorem d_y_entryStart_4 : decode M_y_entryStart.2.1 4 = .ok (.invokevirtual 56, 3) := by decide +kernel
theorem d_y_entryStart_7 : decode M_y_entryStart.2.1 7 = .ok (.imul, 1) := by decide +kernel
theorem d_y_entryStart_8 : decode M_y_entryStart.2.1 8 = .ok (.iadd, 1) := by decide +kernel
theorem d_y_entryStart_9 : decode M_y_entryStart.2.1 9 = .ok (.bipush 6, 2) := by decide +kernel
theorem d_y_entryStart_11 : decode M_y_entryStart.2.1 11 = .ok (.iload_n 1, 1) := by decide +kernel
theorem d_y_entryStart_12 : decode M_y_entryStart.2.1 12 = .ok (.imul, 1) := by decide +kernel
theorem d_y_entryStart_13 : decode M_y_entryStart.2.1 13 = .ok (.iadd, 1) := by decide +kernel
theorem d_y_entryStart_14 : decode M_y_entryStart.2.1 14 = .ok (.ireturn, 1) := by decide +kernel
theorem d_y_wideCount_0 : decode M_y_wideCount.2.1 0 = .ok (.aload_n 0, 1) := by decide +kernel
theorem d_y_wideCount_1 : decode M_y_wideCount.2.1 1 = .ok (.getfield 11, 3) := by decide +kernel
theorem d_y_wideCount_4 : decode M_y_wideCount.2.1 4 = .ok (.iconst 2, 1) := by decide +kernel
theorem d_y_wideCount_5 : decode M_y_wideCount.2.1 5 = .ok (.iaload, 1) := by decide +kernel
theorem d_y_wideCount_6 : decode M_y_wideCount.2.1 6 = .ok (.iconst 2, 1) := by decide +kernel
theorem d_y_wideCount_7 : decode M_y_wideCount.2.1 7 = .ok (.if_icmp .ne 12, 3) := by decide +kernel
theorem d_y_wideCount_10 : decode M_y_wideCount.2.1 10 = .ok (.aload_n 0, 1) := by decide +kernel
theorem d_y_wideCount_11 : decode M_y_wideCount.2.1 11 = .ok (.getfield 11, 3) := by decide +kernel
theorem d_y_wideCount_14 : decode M_y_wideCount.2.1 14 = .ok (.iconst 3, 1) := by decide +kernel
theorem d_y_wideCount_15 : decode M_y_wideCount.2.1 15 = .ok (.iaload, 1) := by decide +kernel
theorem d_y_wideCount_16 : decode M_y_wideCount.2.1 16 = .ok (.goto 16, 3) := by decide +kernel
theorem d_y_wideCount_19 : decode M_y_wideCount.2.1 19 = .ok (.aload_n 0, 1) := by decide +kernel
theorem d_y_wideCount_20 : decode M_y_wideCount.2.1 20 = .ok (.getfield 11, 3) := by decide +kernel
theorem d_y_wideCount_23 : decode M_y_wideCount.2.1 23 = .ok (.iconst 3, 1) := by decide +kernel
theorem d_y_wideCount_24 : decode M_y_wideCount.2.1 24 = .ok (.iaload, 1) := by decide +kernel
theorem d_y_wideCount_25 : decode M_y_wideCount.2.1 25 = .ok (.aload_n 0, 1) := by decide +kernel
theorem d_y_wideCount_26 : decode M_y_wideCount.2.1 26 = .ok (.getfield 11, 3) := by decide +kernel
theorem d_y_wideCount_29 : decode M_y_wideCount.2.1 29 = .ok (.iconst 4, 1) := by decide +kernel
theorem d_y_wideCount_30 : decode M_y_wideCount.2.1 30 = .ok (.iaload, 1) := by decide +kernel
theorem d_y_wideCount_31 : decode M_y_wideCount.2.1 31 = .ok (.iadd, 1) := by decide +kernel
theorem d_y_wideCount_32 : decode M_y_wideCount.2.1 32 = .ok (.istore_n 1, 1) := by decide +kernel
theorem d_y_wideCount_33 : decode M_y_wideCount.2.1 33 = .ok (.iload_n 1, 1) := by decide +kernel
theorem d_y_wideCount_34 : decode M_y_wideCount.2.1 34 = .ok (.iconst 4, 1) := by decide +kernel
theorem d_y_wideCount_35 : decode M_y_wideCount.2.1 35 = .ok (.imul, 1) := by decide +kernel
theorem d_y_wideCount_36 : decode M_y_wideCount.2.1 36 = .ok (.ireturn, 1) := by decide +kernel
theorem d_y_hasWides_0 : decode M_y_hasWides.2.1 0 = .ok (.iconst 0, 1) := by decide +kernel
theorem d_y_hasWides_1 : decode M_y_hasWides.2.1 1 = .ok (.istore_n 1, 1) := by decide +kernel
theorem d_y_hasWides_2 : decode M_y_hasWides.2.1 2 = .ok (.iload_n 1, 1) := by decide +kernel
theorem d_y_hasWides_3 : decode M_y_hasWides.2.1 3 = .ok (.aload_n 0, 1) := by decide +kernel
theorem d_y_hasWides_4 : decode M_y_hasWides.2.1 4 = .ok (.invokevirtual 56, 3) := by decide +kernel
theorem d_y_hasWides_7 : decode M_y_hasWides.2.1 7 = .ok (.if_icmp .ge 22, 3) := by decide +kernel
theorem d_y_hasWides_10 : decode M_y_hasWides.2.1 10 = .ok (.aload_n 0, 1) := by decide +kernel
theorem d_y_hasWides_11 : decode M_y_hasWides.2.1 11 = .ok (.iload_n 1, 1) := by decide +kernel
theorem d_y_hasWides_12 : decode M_y_hasWides.2.1 12 = .ok (.invokevirtual 60, 3) := by decide +kernel
theorem d_y_hasWides_15 : decode M_y_hasWides.2.1 15 = .ok (.sipush 300, 3) := by decide +kernel
theorem d_y_hasWides_18 : decode M_y_hasWides.2.1 18 = .ok (.if_icmp .le 5, 3) := by decide +kernel
theorem d_y_hasWides_21 : decode M_y_hasWides.2.1 21 = .ok (.iconst 0, 1) := by decide +kernel
theorem d_y_hasWides_22 : decode M_y_hasWides.2.1 22 = .ok (.ireturn, 1) := by decide +kernel
theorem d_y_hasWides_23 : decode M_y_hasWides.2.1 23 = .ok (.iinc 1 1, 3) := by decide +kernel
theorem d_y_hasWides_26 : decode M_y_hasWides.2.1 26 = .ok (.goto (-24), 3) := by decide +kernel
theorem d_y_hasWides_29 : decode M_y_hasWides.2.1 29 = .ok (.iconst 1, 1) := by decide +kernel
theorem d_y_hasWides_30 : decode M_y_hasWides.2.1 30 = .ok (.ireturn, 1) := by decide +kernel
theorem d_y_wide_0 : decode M_y_wide.2.1 0 = .ok (.aload_n 0, 1) := by decide +kernel
theorem d_y_wide_1 : decode M_y_wide.2.1 1 = .ok (.bipush 10, 2) := by decide +kernel
theorem d_y_wide_3 : decode M_y_wide.2.1 3 = .ok (.iconst 2, 1) := by decide +kernel
theorem d_y_wide_4 : decode M_y_wide.2.1 4 = .ok (.iload_n 1, 1) := by decide +kernel
theorem d_y_wide_5 : decode M_y_wide.2.1 5 = .ok (.imul, 1) := by decide +kernel
theorem d_y_wide_6 : decode M_y_wide.2.1 6 = .ok (.iadd, 1) := by decide +kernel
theorem d_y_wide_7 : decode M_y_wide.2.1 7 = .ok (.invokevirtual 23, 3) := by decide +kernel
theorem d_y_wide_10 : decode M_y_wide.2.1 10 = .ok (.sipush 300, 3) := by decide +kernel
theorem d_y_wide_13 : decode M_y_wide.2.1 13 = .ok (.isub, 1) := by decide +kernel
theorem d_y_wide_14 : decode M_y_wide.2.1 14 = .ok (.ireturn, 1) := by decide +kernel
theorem d_y_pairAt_0 : decode M_y_pairAt.2.1 0 = .ok (.aload_n 0, 1) := by decide +kernel
theorem d_y_pairAt_1 : decode M_y_pairAt.2.1 1 = .ok (.getfield 11, 3) := by decide +kernel
theorem d_y_pairAt_4 : decode M_y_pairAt.2.1 4 = .ok (.iload_n 1, 1) := by decide +kernel
theorem d_y_pairAt_5 : decode M_y_pairAt.2.1 5 = .ok (.iaload, 1) := by decide +kernel
theorem d_y_pairAt_6 : decode M_y_pairAt.2.1 6 = .ok (.sipush 256, 3) := by decide +kernel
theorem d_y_pairAt_9 : decode M_y_pairAt.2.1 9 = .ok (.imul, 1) := by decide +kernel
theorem d_y_pairAt_10 : decode M_y_pairAt.2.1 10 = .ok (.aload_n 0, 1) := by decide +kernel
theorem d_y_pairAt_11 : decode M_y_pairAt.2.1 11 = .ok (.getfield 11, 3) := by decide +kernel
theorem d_y_pairAt_14 : decode M_y_pairAt.2.1 14 = .ok (.iload_n 1, 1) := by decide +kernel
theorem d_y_pairAt_15 : decode M_y_pairAt.2.1 15 = .ok (.iconst 1, 1) := by decide +kernel
theorem d_y_pairAt_16 : decode M_y_pairAt.2.1 16 = .ok (.iadd, 1) := by decide +kernel
theorem d_y_pairAt_17 : decode M_y_pairAt.2.1 17 = .ok (.iaload, 1) := by decide +kernel
theorem d_y_pairAt_18 : decode M_y_pairAt.2.1 18 = .ok (.iadd, 1) := by decide +kernel
theorem d_y_pairAt_19 : decode M_y_pairAt.2.1 19 = .ok (.ireturn, 1) := by decide +kernel
theorem d_y_hasEntries_0 : decode M_y_hasEntries.2.1 0 = .ok (.iconst (-1), 1) := by decide +kernel
theorem d_y_hasEntries_1 : decode M_y_hasEntries.2.1 1 = .ok (.istore_n 1, 1) := by decide +kernel
theorem d_y_hasEntries_2 : decode M_y_hasEntries.2.1 2 = .ok (.iconst 0, 1) := by decide +kernel
theorem d_y_hasEntries_3 : decode M_y_hasEntries.2.1 3 = .ok (.istore_n 2, 1) := by decide +kernel
theorem d_y_hasEntries_4 : decode M_y_hasEntries.2.1 4 = .ok (.iload_n 2, 1) := by decide +kernel
theorem d_y_hasEntries_5 : decode M_y_hasEntries.2.1 5 = .ok (.aload_n 0, 1) := by decide +kernel
theorem d_y_hasEntries_6 : decode M_y_hasEntries.2.1 6 = .ok (.getfield 11, 3) := by decide +kernel
theorem d_y_hasEntries_9 : decode M_y_hasEntries.2.1 9 = .ok (.iconst 5, 1) := by decide +kernel
theorem d_y_hasEntries_10 : decode M_y_hasEntries.2.1 10 = .ok (.iaload, 1) := by decide +kernel
theorem d_y_hasEntries_11 : decode M_y_hasEntries.2.1 11 = .ok (.if_icmp .ge 39, 3) := by decide +kernel
theorem d_y_hasEntries_14 : decode M_y_hasEntries.2.1 14 = .ok (.aload_n 0, 1) := by decide +kernel
theorem d_y_hasEntries_15 : decode M_y_hasEntries.2.1 15 = .ok (.iload_n 2, 1) := by decide +kernel
theorem d_y_hasEntries_16 : decode M_y_hasEntries.2.1 16 = .ok (.invokevirtual 63, 3) := by decide +kernel
theorem d_y_hasEntries_19 : decode M_y_hasEntries.2.1 19 = .ok (.istore_n 3, 1) := by decide +kernel
theorem d_y_hasEntries_20 : decode M_y_hasEntries.2.1 20 = .ok (.iload_n 3, 1) := by decide +kernel
theorem d_y_hasEntries_21 : decode M_y_hasEntries.2.1 21 = .ok (.sipush 999, 3) := by decide +kernel
theorem d_y_hasEntries_24 : decode M_y_hasEntries.2.1 24 = .ok (.if_icmp .gt 16, 3) := by decide +kernel
theorem d_y_hasEntries_27 : decode M_y_hasEntries.2.1 27 = .ok (.iload_n 3, 1) := by decide +kernel
theorem d_y_hasEntries_28 : decode M_y_hasEntries.2.1 28 = .ok (.iload_n 1, 1) := by decide +kernel
theorem d_y_hasEntries_29 : decode M_y_hasEntries.2.1 29 = .ok (.if_icmp .le 11, 3) := by decide +kernel
theorem d_y_hasEntries_32 : decode M_y_hasEntries.2.1 32 = .ok (.aload_n 0, 1) := by decide +kernel
theorem d_y_hasEntries_33 : decode M_y_hasEntries.2.1 33 = .ok (.iload_n 2, 1) := by decide +kernel
theorem d_y_hasEntries_34 : decode M_y_hasEntries.2.1 34 = .ok (.invokevirtual 66, 3) := by decide +kernel
theorem d_y_hasEntries_37 : decode M_y_hasEntries.2.1 37 = .ok (.ifCond .ne 5, 3) := by decide +kernel
theorem d_y_hasEntries_40 : decode M_y_hasEntries.2.1 40 = .ok (.iconst 0, 1) := by decide +kernel
theorem d_y_hasEntries_41 : decode M_y_hasEntries.2.1 41 = .ok (.ireturn, 1) := by decide +kernel
theorem d_y_hasEntries_42 : decode M_y_hasEntries.2.1 42 = .ok (.iload_n 3, 1) := by decide +kernel
theorem d_y_hasEntries_43 : decode M_y_hasEntries.2.1 43 = .ok (.istore_n 1, 1) := by decide +kernel
theorem d_y_hasEntries_44 : decode M_y_hasEntries.2.1 44 = .ok (.iinc 2 1, 3) := by decide +kernel
theorem d_y_hasEntries_47 : decode M_y_hasEntries.2.1 47 = .ok (.goto (-43), 3) := by decide +kernel
theorem d_y_hasEntries_50 : decode M_y_hasEntries.2.1 50 = .ok (.iconst 1, 1) := by decide +kernel
theorem d_y_hasEntries_51 : decode M_y_hasEntries.2.1 51 = .ok (.ireturn, 1) := by decide +kernel
theorem d_y_entryId_0 : decode M_y_entryId.2.1 0 = .ok (.aload_n 0, 1) := by decide +kernel
theorem d_y_entryId_1 : decode M_y_entryId.2.1 1 = .ok (.aload_n 0, 1) := by decide +kernel
theorem d_y_entryId_2 : decode M_y_entryId.2.1 2 = .ok (.iload_n 1, 1) := by decide +kernel
theorem d_y_entryId_3 : decode M_y_entryId.2.1 3 = .ok (.invokevirtual 27, 3) := by decide +kernel
theorem d_y_entryId_6 : decode M_y_entryId.2.1 6 = .ok (.invokevirtual 23, 3) := by decide +kernel
theorem d_y_entryId_9 : decode M_y_entryId.2.1 9 = .ok (.ireturn, 1) := by decide +kernel
theorem d_y_hasPoint_0 : decode M_y_hasPoint.2.1 0 = .ok (.iconst 0, 1) := by decide +kernel
theorem d_y_hasPoint_1 : decode M_y_hasPoint.2.1 1 = .ok (.istore_n 2, 1) := by decide +kernel
theorem d_y_hasPoint_2 : decode M_y_hasPoint.2.1 2 = .ok (.iload_n 2, 1) := by decide +kernel
theorem d_y_hasPoint_3 : decode M_y_hasPoint.2.1 3 = .ok (.iconst 4, 1) := by decide +kernel
theorem d_y_hasPoint_4 : decode M_y_hasPoint.2.1 4 = .ok (.if_icmp .ge 22, 3) := by decide +kernel
theorem d_y_hasPoint_7 : decode M_y_hasPoint.2.1 7 = .ok (.aload_n 0, 1) := by decide +kernel
theorem d_y_hasPoint_8 : decode M_y_hasPoint.2.1 8 = .ok (.iload_n 1, 1) := by decide +kernel
theorem d_y_hasPoint_9 : decode M_y_hasPoint.2.1 9 = .ok (.iload_n 2, 1) := by decide +kernel
theorem d_y_hasPoint_10 : decode M_y_hasPoint.2.1 10 = .ok (.invokevirtual 70, 3) := by decide +kernel
theorem d_y_hasPoint_13 : decode M_y_hasPoint.2.1 13 = .ok (.bipush 100, 2) := by decide +kernel
theorem d_y_hasPoint_15 : decode M_y_hasPoint.2.1 15 = .ok (.if_icmp .le 5, 3) := by decide +kernel
theorem d_y_hasPoint_18 : decode M_y_hasPoint.2.1 18 = .ok (.iconst 0, 1) := by decide +kernel
theorem d_y_hasPoint_19 : decode M_y_hasPoint.2.1 19 = .ok (.ireturn, 1) := by decide +kernel
theorem d_y_hasPoint_20 : decode M_y_hasPoint.2.1 20 = .ok (.iinc 2 1, 3) := by decide +kernel
theorem d_y_hasPoint_23 : decode M_y_hasPoint.2.1 23 = .ok (.goto (-21), 3) := by decide +kernel
theorem d_y_hasPoint_26 : decode M_y_hasPoint.2.1 26 = .ok (.iconst 1, 1) := by decide +kernel
theorem d_y_hasPoint_27 : decode M_y_hasPoint.2.1 27 = .ok (.ireturn, 1) := by decide +kernel
theorem d_y_entryCoordinate_0 : decode M_y_entryCoordinate.2.1 0 = .ok (.aload_n 0, 1) := by decide +kernel
theorem d_y_entryCoordinate_1 : decode M_y_entryCoordinate.2.1 1 = .ok (.getfield 11, 3) := by decide +kernel
theorem d_y_entryCoordinate_4 : decode M_y_entryCoordinate.2.1 4 = .ok (.aload_n 0, 1) := by decide +kernel
theorem d_y_entryCoordinate_5 : decode M_y_entryCoordinate.2.1 5 = .ok (.iload_n 1, 1) := by decide +kernel
theorem d_y_entryCoordinate_6 : decode M_y_entryCoordinate.2.1 6 = .ok (.invokevirtual 27, 3) := by decide +kernel
theorem d_y_entryCoordinate_9 : decode M_y_entryCoordinate.2.1 9 = .ok (.iconst 2, 1) := by decide +kernel
theorem d_y_entryCoordinate_10 : decode M_y_entryCoordinate.2.1 10 = .ok (.iadd, 1) := by decide +kernel
theorem d_y_entryCoordinate_11 : decode M_y_entryCoordinate.2.1 11 = .ok (.iload_n 2, 1) := by decide +kernel
theorem d_y_entryCoordinate_12 : decode M_y_entryCoordinate.2.1 12 = .ok (.iadd, 1) := by decide +kernel
theorem d_y_entryCoordinate_13 : decode M_y_entryCoordinate.2.1 13 = .ok (.iaload, 1) := by decide +kernel
theorem d_y_entryCoordinate_14 : decode M_y_entryCoordinate.2.1 14 = .ok (.bipush 100, 2) := by decide +kernel
theorem d_y_entryCoordinate_16 : decode M_y_entryCoordinate.2.1 16 = .ok (.isub, 1) := by decide +kernel
theorem d_y_entryCoordinate_17 : decode M_y_entryCoordinate.2.1 17 = .ok (.ireturn, 1) := by decide +kernel
theorem d_q_readHead_0 : decode M_q_readHead.2.1 0 = .ok (.aload_n 0, 1) := by decide +kernel
theorem d_q_readHead_1 : decode M_q_readHead.2.1 1 = .ok (.getfield 33, 3) := by decide +kernel
theorem d_q_readHead_4 : decode M_q_readHead.2.1 4 = .ok (.aload_n 0, 1) := by decide +kernel
theorem d_q_readHead_5 : decode M_q_readHead.2.1 5 = .ok (.getfield 54, 3) := by decide +kernel
theorem d_q_readHead_8 : decode M_q_readHead.2.1 8 = .ok (.getfield 215, 3) := by decide +kernel
theorem d_q_readHead_11 : decode M_q_readHead.2.1 11 = .ok (.iconst 2, 1) := by decide +kernel
theorem d_q_readHead_12 : decode M_q_readHead.2.1 12 = .ok (.iaload, 1) := by decide +kernel
theorem d_q_readHead_13 : decode M_q_readHead.2.1 13 = .ok (.aload_n 0, 1) := by decide +kernel
theorem d_q_readHead_14 : decode M_q_readHead.2.1 14 = .ok (.getfield 54, 3) := by decide +kernel
theorem d_q_readHead_17 : decode M_q_readHead.2.1 17 = .ok (.getfield 215, 3) := by decide +kernel
theorem d_q_readHead_20 : decode M_q_readHead.2.1 20 = .ok (.iconst 3, 1) := by decide +kernel
theorem d_q_readHead_21 : decode M_q_readHead.2.1 21 = .ok (.iaload, 1) := by decide +kernel
theorem d_q_readHead_22 : decode M_q_readHead.2.1 22 = .ok (.aload_n 0, 1) := by decide +kernel
theorem d_q_readHead_23 : decode M_q_readHead.2.1 23 = .ok (.getfield 54, 3) := by decide +kernel
theorem d_q_readHead_26 : decode M_q_readHead.2.1 26 = .ok (.getfield 215, 3) := by decide +kernel
theorem d_q_readHead_29 : decode M_q_readHead.2.1 29 = .ok (.iconst 4, 1) := by decide +kernel
theorem d_q_readHead_30 : decode M_q_readHead.2.1 30 = .ok (.iaload, 1) := by decide +kernel
theorem d_q_readHead_31 : decode M_q_readHead.2.1 31 = .ok (.invokevirtual 90, 3) := by decide +kernel
theorem d_q_readHead_34 : decode M_q_readHead.2.1 34 = .ok (.aload_n 0, 1) := by decide +kernel
theorem d_q_readHead_35 : decode M_q_readHead.2.1 35 = .ok (.getfield 10, 3) := by decide +kernel
theorem d_q_readHead_38 : decode M_q_readHead.2.1 38 = .ok (.aload_n 0, 1) := by decide +kernel
theorem d_q_readHead_39 : decode M_q_readHead.2.1 39 = .ok (.getfield 54, 3) := by decide +kernel
theorem d_q_readHead_42 : decode M_q_readHead.2.1 42 = .ok (.iconst 0, 1) := by decide +kernel
theorem d_q_readHead_43 : decode M_q_readHead.2.1 43 = .ok (.invokevirtual 300, 3) := by decide +kernel
theorem d_q_readHead_46 : decode M_q_readHead.2.1 46 = .ok (.aload_n 0, 1) := by decide +kernel
theorem d_q_readHead_47 : decode M_q_readHead.2.1 47 = .ok (.getfield 54, 3) := by decide +kernel
theorem d_q_readHead_50 : decode M_q_readHead.2.1 50 = .ok (.iconst 1, 1) := by decide +kernel
theorem d_q_readHead_51 : decode M_q_readHead.2.1 51 = .ok (.invokevirtual 300, 3) := by decide +kernel
theorem d_q_readHead_54 : decode M_q_readHead.2.1 54 = .ok (.aload_n 0, 1) := by decide +kernel
theorem d_q_readHead_55 : decode M_q_readHead.2.1 55 = .ok (.getfield 54, 3) := by decide +kernel
theorem d_q_readHead_58 : decode M_q_readHead.2.1 58 = .ok (.iconst 2, 1) := by decide +kernel
theorem d_q_readHead_59 : decode M_q_readHead.2.1 59 = .ok (.invokevirtual 300, 3) := by decide +kernel
theorem d_q_readHead_62 : decode M_q_readHead.2.1 62 = .ok (.aload_n 0, 1) := by decide +kernel
theorem d_q_readHead_63 : decode M_q_readHead.2.1 63 = .ok (.getfield 54, 3) := by decide +kernel
theorem d_q_readHead_66 : decode M_q_readHead.2.1 66 = .ok (.iconst 3, 1) := by decide +kernel
theorem d_q_readHead_67 : decode M_q_readHead.2.1 67 = .ok (.invokevirtual 300, 3) := by decide +kernel
theorem d_q_readHead_70 : decode M_q_readHead.2.1 70 = .ok (.invokevirtual 66, 3) := by decide +kernel
theorem d_q_readHead_73 : decode M_q_readHead.2.1 73 = .ok (.return_, 1) := by decide +kernel
theorem d_q_readCentres_0 : decode M_q_readCentres.2.1 0 = .ok (.iconst 0, 1) := by decide +kernel
theorem d_q_readCentres_1 : decode M_q_readCentres.2.1 1 = .ok (.istore_n 1, 1) := by decide +kernel
theorem d_q_readCentres_2 : decode M_q_readCentres.2.1 2 = .ok (.iload_n 1, 1) := by decide +kernel
theorem d_q_readCentres_3 : decode M_q_readCentres.2.1 3 = .ok (.aload_n 0, 1) := by decide +kernel
theorem d_q_readCentres_4 : decode M_q_readCentres.2.1 4 = .ok (.getfield 33, 3) := by decide +kernel
theorem d_q_readCentres_7 : decode M_q_readCentres.2.1 7 = .ok (.getfield 239, 3) := by decide +kernel
theorem d_q_readCentres_10 : decode M_q_readCentres.2.1 10 = .ok (.if_icmp .ge 45, 3) := by decide +kernel
theorem d_q_readCentres_13 : decode M_q_readCentres.2.1 13 = .ok (.iconst 0, 1) := by decide +kernel
theorem d_q_readCentres_14 : decode M_q_readCentres.2.1 14 = .ok (.istore_n 2, 1) := by decide +kernel
theorem d_q_readCentres_15 : decode M_q_readCentres.2.1 15 = .ok (.iload_n 2, 1) := by decide +kernel
theorem d_q_readCentres_16 : decode M_q_readCentres.2.1 16 = .ok (.iconst 4, 1) := by decide +kernel
theorem d_q_readCentres_17 : decode M_q_readCentres.2.1 17 = .ok (.if_icmp .ge 32, 3) := by decide +kernel
theorem d_q_readCentres_20 : decode M_q_readCentres.2.1 20 = .ok (.aload_n 0, 1) := by decide +kernel
theorem d_q_readCentres_21 : decode M_q_readCentres.2.1 21 = .ok (.getfield 33, 3) := by decide +kernel
theorem d_q_readCentres_24 : decode M_q_readCentres.2.1 24 = .ok (.getfield 111, 3) := by decide +kernel
theorem d_q_readCentres_27 : decode M_q_readCentres.2.1 27 = .ok (.iload_n 1, 1) := by decide +kernel
theorem d_q_readCentres_28 : decode M_q_readCentres.2.1 28 = .ok (.aaload, 1) := by decide +kernel
theorem d_q_readCentres_29 : decode M_q_readCentres.2.1 29 = .ok (.iload_n 2, 1) := by decide +kernel
theorem d_q_readCentres_30 : decode M_q_readCentres.2.1 30 = .ok (.aload_n 0, 1) := by decide +kernel
theorem d_q_readCentres_31 : decode M_q_readCentres.2.1 31 = .ok (.getfield 54, 3) := by decide +kernel
theorem d_q_readCentres_34 : decode M_q_readCentres.2.1 34 = .ok (.iload_n 1, 1) := by decide +kernel
theorem d_q_readCentres_35 : decode M_q_readCentres.2.1 35 = .ok (.iconst 4, 1) := by decide +kernel
theorem d_q_readCentres_36 : decode M_q_readCentres.2.1 36 = .ok (.imul, 1) := by decide +kernel
theorem d_q_readCentres_37 : decode M_q_readCentres.2.1 37 = .ok (.iload_n 2, 1) := by decide +kernel
theorem d_q_readCentres_38 : decode M_q_readCentres.2.1 38 = .ok (.iadd, 1) := by decide +kernel
theorem d_q_readCentres_39 : decode M_q_readCentres.2.1 39 = .ok (.invokevirtual 303, 3) := by decide +kernel
theorem d_q_readCentres_42 : decode M_q_readCentres.2.1 42 = .ok (.iastore, 1) := by decide +kernel
theorem d_q_readCentres_43 : decode M_q_readCentres.2.1 43 = .ok (.iinc 2 1, 3) := by decide +kernel
theorem d_q_readCentres_46 : decode M_q_readCentres.2.1 46 = .ok (.goto (-31), 3) := by decide +kernel
theorem d_q_readCentres_49 : decode M_q_readCentres.2.1 49 = .ok (.iinc 1 1, 3) := by decide +kernel
theorem d_q_readCentres_52 : decode M_q_readCentres.2.1 52 = .ok (.goto (-50), 3) := by decide +kernel
theorem d_q_readCentres_55 : decode M_q_readCentres.2.1 55 = .ok (.return_, 1) := by decide +kernel
theorem d_q_readWords_0 : decode M_q_readWords.2.1 0 = .ok (.aload_n 0, 1) := by decide +kernel
theorem d_q_readWords_1 : decode M_q_readWords.2.1 1 = .ok (.getfield 33, 3) := by decide +kernel
theorem d_q_readWords_4 : decode M_q_readWords.2.1 4 = .ok (.getfield 239, 3) := by decide +kernel
theorem d_q_readWords_7 : decode M_q_readWords.2.1 7 = .ok (.iconst 4, 1) := by decide +kernel
theorem d_q_readWords_8 : decode M_q_readWords.2.1 8 = .ok (.imul, 1) := by decide +kernel
theorem d_q_readWords_9 : decode M_q_readWords.2.1 9 = .ok (.istore_n 1, 1) := by decide +kernel
theorem d_q_readWords_10 : decode M_q_readWords.2.1 10 = .ok (.iconst 0, 1) := by decide +kernel
theorem d_q_readWords_11 : decode M_q_readWords.2.1 11 = .ok (.istore_n 2, 1) := by decide +kernel
theorem d_q_readWords_12 : decode M_q_readWords.2.1 12 = .ok (.iload_n 2, 1) := by decide +kernel
theorem d_q_readWords_13 : decode M_q_readWords.2.1 13 = .ok (.aload_n 0, 1) := by decide +kernel
theorem d_q_readWords_14 : decode M_q_readWords.2.1 14 = .ok (.getfield 33, 3) := by decide +kernel
theorem d_q_readWords_17 : decode M_q_readWords.2.1 17 = .ok (.getfield 118, 3) := by decide +kernel
theorem d_q_readWords_20 : decode M_q_readWords.2.1 20 = .ok (.invokestatic 257, 3) := by decide +kernel
theorem d_q_readWords_23 : decode M_q_readWords.2.1 23 = .ok (.if_icmp .ge 79, 3) := by decide +kernel
theorem d_q_readWords_26 : decode M_q_readWords.2.1 26 = .ok (.iconst 0, 1) := by decide +kernel
theorem d_q_readWords_27 : decode M_q_readWords.2.1 27 = .ok (.istore_n 3, 1) := by decide +kernel
theorem d_q_readWords_28 : decode M_q_readWords.2.1 28 = .ok (.iload_n 3, 1) := by decide +kernel
theorem d_q_readWords_29 : decode M_q_readWords.2.1 29 = .ok (.aload_n 0, 1) := by decide +kernel
theorem d_q_readWords_30 : decode M_q_readWords.2.1 30 = .ok (.getfield 33, 3) := by decide +kernel
theorem d_q_readWords_33 : decode M_q_readWords.2.1 33 = .ok (.getfield 260, 3) := by decide +kernel
theorem d_q_readWords_36 : decode M_q_readWords.2.1 36 = .ok (.if_icmp .ge 60, 3) := by decide +kernel
theorem d_q_readWords_39 : decode M_q_readWords.2.1 39 = .ok (.iconst 0, 1) := by decide +kernel
theorem d_q_readWords_40 : decode M_q_readWords.2.1 40 = .ok (.istore 4, 2) := by decide +kernel
theorem d_q_readWords_42 : decode M_q_readWords.2.1 42 = .ok (.iload 4, 2) := by decide +kernel
theorem d_q_readWords_44 : decode M_q_readWords.2.1 44 = .ok (.aload_n 0, 1) := by decide +kernel
theorem d_q_readWords_45 : decode M_q_readWords.2.1 45 = .ok (.getfield 33, 3) := by decide +kernel
theorem d_q_readWords_48 : decode M_q_readWords.2.1 48 = .ok (.getfield 118, 3) := by decide +kernel
theorem d_q_readWords_51 : decode M_q_readWords.2.1 51 = .ok (.invokestatic 121, 3) := by decide +kernel
theorem d_q_readWords_54 : decode M_q_readWords.2.1 54 = .ok (.if_icmp .ge 36, 3) := by decide +kernel
theorem d_q_readWords_57 : decode M_q_readWords.2.1 57 = .ok (.aload_n 0, 1) := by decide +kernel
theorem d_q_readWords_58 : decode M_q_readWords.2.1 58 = .ok (.getfield 33, 3) := by decide +kernel
theorem d_q_readWords_61 : decode M_q_readWords.2.1 61 = .ok (.getfield 125, 3) := by decide +kernel
theorem d_q_readWords_64 : decode M_q_readWords.2.1 64 = .ok (.iload_n 2, 1) := by decide +kernel
theorem d_q_readWords_65 : decode M_q_readWords.2.1 65 = .ok (.iload_n 3, 1) := by decide +kernel
theorem d_q_readWords_66 : decode M_q_readWords.2.1 66 = .ok (.invokestatic 128, 3) := by decide +kernel
theorem d_q_readWords_69 : decode M_q_readWords.2.1 69 = .ok (.aaload, 1) := by decide +kernel
theorem d_q_readWords_70 : decode M_q_readWords.2.1 70 = .ok (.iload 4, 2) := by decide +kernel
theorem d_q_readWords_72 : decode M_q_readWords.2.1 72 = .ok (.aload_n 0, 1) := by decide +kernel
theorem d_q_readWords_73 : decode M_q_readWords.2.1 73 = .ok (.getfield 54, 3) := by decide +kernel
theorem d_q_readWords_76 : decode M_q_readWords.2.1 76 = .ok (.iload_n 1, 1) := by decide +kernel
theorem d_q_readWords_77 : decode M_q_readWords.2.1 77 = .ok (.invokevirtual 303, 3) := by decide +kernel
theorem d_q_readWords_80 : decode M_q_readWords.2.1 80 = .ok (.iastore, 1) := by decide +kernel
theorem d_q_readWords_81 : decode M_q_readWords.2.1 81 = .ok (.iinc 1 1, 3) := by decide +kernel
theorem d_q_readWords_84 : decode M_q_readWords.2.1 84 = .ok (.iinc 4 1, 3) := by decide +kernel
theorem d_q_readWords_87 : decode M_q_readWords.2.1 87 = .ok (.goto (-45), 3) := by decide +kernel
theorem d_q_readWords_90 : decode M_q_readWords.2.1 90 = .ok (.iinc 3 1, 3) := by decide +kernel
theorem d_q_readWords_93 : decode M_q_readWords.2.1 93 = .ok (.goto (-65), 3) := by decide +kernel
theorem d_q_readWords_96 : decode M_q_readWords.2.1 96 = .ok (.iinc 2 1, 3) := by decide +kernel
theorem d_q_readWords_99 : decode M_q_readWords.2.1 99 = .ok (.goto (-87), 3) := by decide +kernel
theorem d_q_readWords_102 : decode M_q_readWords.2.1 102 = .ok (.return_, 1) := by decide +kernel
theorem d_q_readEntries_0 : decode M_q_readEntries.2.1 0 = .ok (.aload_n 0, 1) := by decide +kernel
theorem d_q_readEntries_1 : decode M_q_readEntries.2.1 1 = .ok (.getfield 40, 3) := by decide +kernel
theorem d_q_readEntries_4 : decode M_q_readEntries.2.1 4 = .ok (.iconst 0, 1) := by decide +kernel
theorem d_q_readEntries_5 : decode M_q_readEntries.2.1 5 = .ok (.putfield 85, 3) := by decide +kernel
theorem d_q_readEntries_8 : decode M_q_readEntries.2.1 8 = .ok (.iconst 0, 1) := by decide +kernel
theorem d_q_readEntries_9 : decode M_q_readEntries.2.1 9 = .ok (.istore_n 1, 1) := by decide +kernel
theorem d_q_readEntries_10 : decode M_q_readEntries.2.1 10 = .ok (.iload_n 1, 1) := by decide +kernel
theorem d_q_readEntries_11 : decode M_q_readEntries.2.1 11 = .ok (.aload_n 0, 1) := by decide +kernel
theorem d_q_readEntries_12 : decode M_q_readEntries.2.1 12 = .ok (.getfield 54, 3) := by decide +kernel
theorem d_q_readEntries_15 : decode M_q_readEntries.2.1 15 = .ok (.getfield 215, 3) := by decide +kernel
theorem d_q_readEntries_18 : decode M_q_readEntries.2.1 18 = .ok (.iconst 5, 1) := by decide +kernel
theorem d_q_readEntries_19 : decode M_q_readEntries.2.1 19 = .ok (.iaload, 1) := by decide +kernel
theorem d_q_readEntries_20 : decode M_q_readEntries.2.1 20 = .ok (.if_icmp .ge 58, 3) := by decide +kernel
theorem d_q_readEntries_23 : decode M_q_readEntries.2.1 23 = .ok (.aload_n 0, 1) := by decide +kernel
theorem d_q_readEntries_24 : decode M_q_readEntries.2.1 24 = .ok (.aload_n 0, 1) := by decide +kernel
theorem d_q_readEntries_25 : decode M_q_readEntries.2.1 25 = .ok (.getfield 54, 3) := by decide +kernel
theorem d_q_readEntries_28 : decode M_q_readEntries.2.1 28 = .ok (.iload_n 1, 1) := by decide +kernel
theorem d_q_readEntries_29 : decode M_q_readEntries.2.1 29 = .ok (.invokevirtual 306, 3) := by decide +kernel
theorem d_q_readEntries_32 : decode M_q_readEntries.2.1 32 = .ok (.aload_n 0, 1) := by decide +kernel
theorem d_q_readEntries_33 : decode M_q_readEntries.2.1 33 = .ok (.getfield 54, 3) := by decide +kernel
theorem d_q_readEntries_36 : decode M_q_readEntries.2.1 36 = .ok (.iload_n 1, 1) := by decide +kernel
theorem d_q_readEntries_37 : decode M_q_readEntries.2.1 37 = .ok (.iconst 0, 1) := by decide +kernel
theorem d_q_readEntries_38 : decode M_q_readEntries.2.1 38 = .ok (.invokevirtual 309, 3) := by decide +kernel
theorem d_q_readEntries_41 : decode M_q_readEntries.2.1 41 = .ok (.aload_n 0, 1) := by decide +kernel
theorem d_q_readEntries_42 : decode M_q_readEntries.2.1 42 = .ok (.getfield 54, 3) := by decide +kernel
theorem d_q_readEntries_45 : decode M_q_readEntries.2.1 45 = .ok (.iload_n 1, 1) := by decide +kernel
theorem d_q_readEntries_46 : decode M_q_readEntries.2.1 46 = .ok (.iconst 1, 1) := by decide +kernel
theorem d_q_readEntries_47 : decode M_q_readEntries.2.1 47 = .ok (.invokevirtual 309, 3) := by decide +kernel
theorem d_q_readEntries_50 : decode M_q_readEntries.2.1 50 = .ok (.aload_n 0, 1) := by decide +kernel
theorem d_q_readEntries_51 : decode M_q_readEntries.2.1 51 = .ok (.getfield 54, 3) := by decide +kernel
theorem d_q_readEntries_54 : decode M_q_readEntries.2.1 54 = .ok (.iload_n 1, 1) := by decide +kernel
theorem d_q_readEntries_55 : decode M_q_readEntries.2.1 55 = .ok (.iconst 2, 1) := by decide +kernel
theorem d_q_readEntries_56 : decode M_q_readEntries.2.1 56 = .ok (.invokevirtual 309, 3) := by decide +kernel
theorem d_q_readEntries_59 : decode M_q_readEntries.2.1 59 = .ok (.aload_n 0, 1) := by decide +kernel
theorem d_q_readEntries_60 : decode M_q_readEntries.2.1 60 = .ok (.getfield 54, 3) := by decide +kernel
theorem d_q_readEntries_63 : decode M_q_readEntries.2.1 63 = .ok (.iload_n 1, 1) := by decide +kernel
theorem d_q_readEntries_64 : decode M_q_readEntries.2.1 64 = .ok (.iconst 3, 1) := by decide +kernel
theorem d_q_readEntries_65 : decode M_q_readEntries.2.1 65 = .ok (.invokevirtual 309, 3) := by decide +kernel
theorem d_q_readEntries_68 : decode M_q_readEntries.2.1 68 = .ok (.invokevirtual 135, 3) := by decide +kernel
theorem d_q_readEntries_71 : decode M_q_readEntries.2.1 71 = .ok (.pop, 1) := by decide +kernel
theorem d_q_readEntries_72 : decode M_q_readEntries.2.1 72 = .ok (.iinc 1 1, 3) := by decide +kernel
theorem d_q_readEntries_75 : decode M_q_readEntries.2.1 75 = .ok (.goto (-65), 3) := by decide +kernel
theorem d_q_readEntries_78 : decode M_q_readEntries.2.1 78 = .ok (.return_, 1) := by decide +kernel
