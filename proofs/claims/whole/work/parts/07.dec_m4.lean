theorem d_m_codeOf_2 : decode M_m_codeOf.2.1 2 = .ok (.invokevirtual 173, 3) := by decide +kernel
theorem d_m_codeOf_5 : decode M_m_codeOf.2.1 5 = .ok (.ifCond .ne 5, 3) := by decide +kernel
theorem d_m_codeOf_8 : decode M_m_codeOf.2.1 8 = .ok (.iconst (-1), 1) := by decide +kernel
theorem d_m_codeOf_9 : decode M_m_codeOf.2.1 9 = .ok (.ireturn, 1) := by decide +kernel
theorem d_m_codeOf_10 : decode M_m_codeOf.2.1 10 = .ok (.aload_n 0, 1) := by decide +kernel
theorem d_m_codeOf_11 : decode M_m_codeOf.2.1 11 = .ok (.iload_n 1, 1) := by decide +kernel
theorem d_m_codeOf_12 : decode M_m_codeOf.2.1 12 = .ok (.invokevirtual 176, 3) := by decide +kernel
theorem d_m_codeOf_15 : decode M_m_codeOf.2.1 15 = .ok (.aload_n 0, 1) := by decide +kernel
theorem d_m_codeOf_16 : decode M_m_codeOf.2.1 16 = .ok (.invokevirtual 170, 3) := by decide +kernel
theorem d_m_codeOf_19 : decode M_m_codeOf.2.1 19 = .ok (.istore_n 2, 1) := by decide +kernel
theorem d_m_codeOf_20 : decode M_m_codeOf.2.1 20 = .ok (.aload_n 0, 1) := by decide +kernel
theorem d_m_codeOf_21 : decode M_m_codeOf.2.1 21 = .ok (.iload_n 2, 1) := by decide +kernel
theorem d_m_codeOf_22 : decode M_m_codeOf.2.1 22 = .ok (.invokevirtual 179, 3) := by decide +kernel
theorem d_m_codeOf_25 : decode M_m_codeOf.2.1 25 = .ok (.iconst 0, 1) := by decide +kernel
theorem d_m_codeOf_26 : decode M_m_codeOf.2.1 26 = .ok (.istore_n 3, 1) := by decide +kernel
theorem d_m_codeOf_27 : decode M_m_codeOf.2.1 27 = .ok (.aload_n 0, 1) := by decide +kernel
theorem d_m_codeOf_28 : decode M_m_codeOf.2.1 28 = .ok (.invokevirtual 144, 3) := by decide +kernel
theorem d_m_codeOf_31 : decode M_m_codeOf.2.1 31 = .ok (.iconst 1, 1) := by decide +kernel
theorem d_m_codeOf_32 : decode M_m_codeOf.2.1 32 = .ok (.isub, 1) := by decide +kernel
theorem d_m_codeOf_33 : decode M_m_codeOf.2.1 33 = .ok (.istore 4, 2) := by decide +kernel
theorem d_m_codeOf_35 : decode M_m_codeOf.2.1 35 = .ok (.iload 4, 2) := by decide +kernel
theorem d_m_codeOf_37 : decode M_m_codeOf.2.1 37 = .ok (.ifCond .lt 27, 3) := by decide +kernel
theorem d_m_codeOf_40 : decode M_m_codeOf.2.1 40 = .ok (.aload_n 0, 1) := by decide +kernel
theorem d_m_codeOf_41 : decode M_m_codeOf.2.1 41 = .ok (.iload 4, 2) := by decide +kernel
theorem d_m_codeOf_43 : decode M_m_codeOf.2.1 43 = .ok (.invokevirtual 158, 3) := by decide +kernel
theorem d_m_codeOf_46 : decode M_m_codeOf.2.1 46 = .ok (.istore 5, 2) := by decide +kernel
theorem d_m_codeOf_48 : decode M_m_codeOf.2.1 48 = .ok (.iload_n 3, 1) := by decide +kernel
theorem d_m_codeOf_49 : decode M_m_codeOf.2.1 49 = .ok (.aload_n 0, 1) := by decide +kernel
theorem d_m_codeOf_50 : decode M_m_codeOf.2.1 50 = .ok (.getfield 137, 3) := by decide +kernel
theorem d_m_codeOf_53 : decode M_m_codeOf.2.1 53 = .ok (.imul, 1) := by decide +kernel
theorem d_m_codeOf_54 : decode M_m_codeOf.2.1 54 = .ok (.iload 5, 2) := by decide +kernel
theorem d_m_codeOf_56 : decode M_m_codeOf.2.1 56 = .ok (.iadd, 1) := by decide +kernel
theorem d_m_codeOf_57 : decode M_m_codeOf.2.1 57 = .ok (.istore_n 3, 1) := by decide +kernel
theorem d_m_codeOf_58 : decode M_m_codeOf.2.1 58 = .ok (.iinc 4 (-1), 3) := by decide +kernel
theorem d_m_codeOf_61 : decode M_m_codeOf.2.1 61 = .ok (.goto (-26), 3) := by decide +kernel
theorem d_m_codeOf_64 : decode M_m_codeOf.2.1 64 = .ok (.iload_n 3, 1) := by decide +kernel
theorem d_m_codeOf_65 : decode M_m_codeOf.2.1 65 = .ok (.ireturn, 1) := by decide +kernel
theorem d_m_leave_0 : decode M_m_leave.2.1 0 = .ok (.iconst 0, 1) := by decide +kernel
theorem d_m_leave_1 : decode M_m_leave.2.1 1 = .ok (.istore_n 2, 1) := by decide +kernel
theorem d_m_leave_2 : decode M_m_leave.2.1 2 = .ok (.iload_n 2, 1) := by decide +kernel
theorem d_m_leave_3 : decode M_m_leave.2.1 3 = .ok (.iconst 4, 1) := by decide +kernel
theorem d_m_leave_4 : decode M_m_leave.2.1 4 = .ok (.if_icmp .ge 32, 3) := by decide +kernel
theorem d_m_leave_7 : decode M_m_leave.2.1 7 = .ok (.aload_n 0, 1) := by decide +kernel
theorem d_m_leave_8 : decode M_m_leave.2.1 8 = .ok (.getfield 44, 3) := by decide +kernel
theorem d_m_leave_11 : decode M_m_leave.2.1 11 = .ok (.iload_n 2, 1) := by decide +kernel
theorem d_m_leave_12 : decode M_m_leave.2.1 12 = .ok (.aload_n 0, 1) := by decide +kernel
theorem d_m_leave_13 : decode M_m_leave.2.1 13 = .ok (.getfield 41, 3) := by decide +kernel
theorem d_m_leave_16 : decode M_m_leave.2.1 16 = .ok (.iload_n 2, 1) := by decide +kernel
theorem d_m_leave_17 : decode M_m_leave.2.1 17 = .ok (.iaload, 1) := by decide +kernel
theorem d_m_leave_18 : decode M_m_leave.2.1 18 = .ok (.aload_n 0, 1) := by decide +kernel
theorem d_m_leave_19 : decode M_m_leave.2.1 19 = .ok (.getfield 16, 3) := by decide +kernel
theorem d_m_leave_22 : decode M_m_leave.2.1 22 = .ok (.iconst 4, 1) := by decide +kernel
theorem d_m_leave_23 : decode M_m_leave.2.1 23 = .ok (.iload_n 1, 1) := by decide +kernel
theorem d_m_leave_24 : decode M_m_leave.2.1 24 = .ok (.imul, 1) := by decide +kernel
theorem d_m_leave_25 : decode M_m_leave.2.1 25 = .ok (.iload_n 2, 1) := by decide +kernel
theorem d_m_leave_26 : decode M_m_leave.2.1 26 = .ok (.iadd, 1) := by decide +kernel
theorem d_m_leave_27 : decode M_m_leave.2.1 27 = .ok (.iaload, 1) := by decide +kernel
theorem d_m_leave_28 : decode M_m_leave.2.1 28 = .ok (.isub, 1) := by decide +kernel
theorem d_m_leave_29 : decode M_m_leave.2.1 29 = .ok (.iastore, 1) := by decide +kernel
theorem d_m_leave_30 : decode M_m_leave.2.1 30 = .ok (.iinc 2 1, 3) := by decide +kernel
theorem d_m_leave_33 : decode M_m_leave.2.1 33 = .ok (.goto (-31), 3) := by decide +kernel
theorem d_m_leave_36 : decode M_m_leave.2.1 36 = .ok (.return_, 1) := by decide +kernel
theorem d_m_entries_0 : decode M_m_entries.2.1 0 = .ok (.aload_n 0, 1) := by decide +kernel
theorem d_m_entries_1 : decode M_m_entries.2.1 1 = .ok (.getfield 92, 3) := by decide +kernel
theorem d_m_entries_4 : decode M_m_entries.2.1 4 = .ok (.ifCond .eq 17, 3) := by decide +kernel
theorem d_m_entries_7 : decode M_m_entries.2.1 7 = .ok (.iload_n 1, 1) := by decide +kernel
theorem d_m_entries_8 : decode M_m_entries.2.1 8 = .ok (.iconst 0, 1) := by decide +kernel
theorem d_m_entries_9 : decode M_m_entries.2.1 9 = .ok (.aload_n 0, 1) := by decide +kernel
theorem d_m_entries_10 : decode M_m_entries.2.1 10 = .ok (.getfield 134, 3) := by decide +kernel
theorem d_m_entries_13 : decode M_m_entries.2.1 13 = .ok (.iconst 1, 1) := by decide +kernel
theorem d_m_entries_14 : decode M_m_entries.2.1 14 = .ok (.isub, 1) := by decide +kernel
theorem d_m_entries_15 : decode M_m_entries.2.1 15 = .ok (.invokestatic 85, 3) := by decide +kernel
theorem d_m_entries_18 : decode M_m_entries.2.1 18 = .ok (.ifCond .ne 5, 3) := by decide +kernel
theorem d_m_entries_21 : decode M_m_entries.2.1 21 = .ok (.iconst (-1), 1) := by decide +kernel
theorem d_m_entries_22 : decode M_m_entries.2.1 22 = .ok (.ireturn, 1) := by decide +kernel
theorem d_m_entries_23 : decode M_m_entries.2.1 23 = .ok (.iconst 0, 1) := by decide +kernel
theorem d_m_entries_24 : decode M_m_entries.2.1 24 = .ok (.istore_n 2, 1) := by decide +kernel
theorem d_m_entries_25 : decode M_m_entries.2.1 25 = .ok (.iconst 0, 1) := by decide +kernel
theorem d_m_entries_26 : decode M_m_entries.2.1 26 = .ok (.istore_n 3, 1) := by decide +kernel
theorem d_m_entries_27 : decode M_m_entries.2.1 27 = .ok (.iload_n 3, 1) := by decide +kernel
theorem d_m_entries_28 : decode M_m_entries.2.1 28 = .ok (.sipush 1000, 3) := by decide +kernel
theorem d_m_entries_31 : decode M_m_entries.2.1 31 = .ok (.if_icmp .ge 39, 3) := by decide +kernel
theorem d_m_entries_34 : decode M_m_entries.2.1 34 = .ok (.aload_n 0, 1) := by decide +kernel
theorem d_m_entries_35 : decode M_m_entries.2.1 35 = .ok (.getfield 22, 3) := by decide +kernel
theorem d_m_entries_38 : decode M_m_entries.2.1 38 = .ok (.iload_n 3, 1) := by decide +kernel
theorem d_m_entries_39 : decode M_m_entries.2.1 39 = .ok (.baload, 1) := by decide +kernel
theorem d_m_entries_40 : decode M_m_entries.2.1 40 = .ok (.ifCond .eq 24, 3) := by decide +kernel
theorem d_m_entries_43 : decode M_m_entries.2.1 43 = .ok (.aload_n 0, 1) := by decide +kernel
theorem d_m_entries_44 : decode M_m_entries.2.1 44 = .ok (.iload_n 3, 1) := by decide +kernel
theorem d_m_entries_45 : decode M_m_entries.2.1 45 = .ok (.invokevirtual 176, 3) := by decide +kernel
theorem d_m_entries_48 : decode M_m_entries.2.1 48 = .ok (.iload_n 2, 1) := by decide +kernel
theorem d_m_entries_49 : decode M_m_entries.2.1 49 = .ok (.aload_n 0, 1) := by decide +kernel
theorem d_m_entries_50 : decode M_m_entries.2.1 50 = .ok (.invokevirtual 170, 3) := by decide +kernel
theorem d_m_entries_53 : decode M_m_entries.2.1 53 = .ok (.iload_n 1, 1) := by decide +kernel
theorem d_m_entries_54 : decode M_m_entries.2.1 54 = .ok (.if_icmp .ne 7, 3) := by decide +kernel
theorem d_m_entries_57 : decode M_m_entries.2.1 57 = .ok (.iconst 1, 1) := by decide +kernel
theorem d_m_entries_58 : decode M_m_entries.2.1 58 = .ok (.goto 4, 3) := by decide +kernel
theorem d_m_entries_61 : decode M_m_entries.2.1 61 = .ok (.iconst 0, 1) := by decide +kernel
theorem d_m_entries_62 : decode M_m_entries.2.1 62 = .ok (.iadd, 1) := by decide +kernel
theorem d_m_entries_63 : decode M_m_entries.2.1 63 = .ok (.istore_n 2, 1) := by decide +kernel
theorem d_m_entries_64 : decode M_m_entries.2.1 64 = .ok (.iinc 3 1, 3) := by decide +kernel
theorem d_m_entries_67 : decode M_m_entries.2.1 67 = .ok (.goto (-40), 3) := by decide +kernel
theorem d_m_entries_70 : decode M_m_entries.2.1 70 = .ok (.iload_n 2, 1) := by decide +kernel
theorem d_m_entries_71 : decode M_m_entries.2.1 71 = .ok (.ireturn, 1) := by decide +kernel
theorem d_m_effort_0 : decode M_m_effort.2.1 0 = .ok (.iload_n 1, 1) := by decide +kernel
theorem d_m_effort_1 : decode M_m_effort.2.1 1 = .ok (.iconst 1, 1) := by decide +kernel
theorem d_m_effort_2 : decode M_m_effort.2.1 2 = .ok (.iconst 4, 1) := by decide +kernel
theorem d_m_effort_3 : decode M_m_effort.2.1 3 = .ok (.invokestatic 85, 3) := by decide +kernel
theorem d_m_effort_6 : decode M_m_effort.2.1 6 = .ok (.ifCond .eq 12, 3) := by decide +kernel
theorem d_m_effort_9 : decode M_m_effort.2.1 9 = .ok (.iload_n 2, 1) := by decide +kernel
theorem d_m_effort_10 : decode M_m_effort.2.1 10 = .ok (.iconst 0, 1) := by decide +kernel
theorem d_m_effort_11 : decode M_m_effort.2.1 11 = .ok (.iconst 3, 1) := by decide +kernel
theorem d_m_effort_12 : decode M_m_effort.2.1 12 = .ok (.invokestatic 85, 3) := by decide +kernel
theorem d_m_effort_15 : decode M_m_effort.2.1 15 = .ok (.ifCond .ne 5, 3) := by decide +kernel
theorem d_m_effort_18 : decode M_m_effort.2.1 18 = .ok (.iconst 0, 1) := by decide +kernel
theorem d_m_effort_19 : decode M_m_effort.2.1 19 = .ok (.ireturn, 1) := by decide +kernel
theorem d_m_effort_20 : decode M_m_effort.2.1 20 = .ok (.aload_n 0, 1) := by decide +kernel
theorem d_m_effort_21 : decode M_m_effort.2.1 21 = .ok (.iload_n 1, 1) := by decide +kernel
theorem d_m_effort_22 : decode M_m_effort.2.1 22 = .ok (.putfield 77, 3) := by decide +kernel
theorem d_m_effort_25 : decode M_m_effort.2.1 25 = .ok (.aload_n 0, 1) := by decide +kernel
theorem d_m_effort_26 : decode M_m_effort.2.1 26 = .ok (.iload_n 2, 1) := by decide +kernel
theorem d_m_effort_27 : decode M_m_effort.2.1 27 = .ok (.putfield 182, 3) := by decide +kernel
theorem d_m_effort_30 : decode M_m_effort.2.1 30 = .ok (.iconst 1, 1) := by decide +kernel
theorem d_m_effort_31 : decode M_m_effort.2.1 31 = .ok (.ireturn, 1) := by decide +kernel
theorem d_m_search_0 : decode M_m_search.2.1 0 = .ok (.aload_n 0, 1) := by decide +kernel
theorem d_m_search_1 : decode M_m_search.2.1 1 = .ok (.iload_n 1, 1) := by decide +kernel
theorem d_m_search_2 : decode M_m_search.2.1 2 = .ok (.iload_n 2, 1) := by decide +kernel
theorem d_m_search_3 : decode M_m_search.2.1 3 = .ok (.iload_n 3, 1) := by decide +kernel
theorem d_m_search_4 : decode M_m_search.2.1 4 = .ok (.iload 4, 2) := by decide +kernel
theorem d_m_search_6 : decode M_m_search.2.1 6 = .ok (.invokevirtual 100, 3) := by decide +kernel
theorem d_m_search_9 : decode M_m_search.2.1 9 = .ok (.istore 6, 2) := by decide +kernel
theorem d_m_search_11 : decode M_m_search.2.1 11 = .ok (.aload_n 0, 1) := by decide +kernel
theorem d_m_search_12 : decode M_m_search.2.1 12 = .ok (.getfield 92, 3) := by decide +kernel
theorem d_m_search_15 : decode M_m_search.2.1 15 = .ok (.ifCond .eq 19, 3) := by decide +kernel
theorem d_m_search_18 : decode M_m_search.2.1 18 = .ok (.iload 6, 2) := by decide +kernel
theorem d_m_search_20 : decode M_m_search.2.1 20 = .ok (.ifCond .eq 14, 3) := by decide +kernel
theorem d_m_search_23 : decode M_m_search.2.1 23 = .ok (.iload 5, 2) := by decide +kernel
theorem d_m_search_25 : decode M_m_search.2.1 25 = .ok (.iconst 1, 1) := by decide +kernel
theorem d_m_search_26 : decode M_m_search.2.1 26 = .ok (.bipush 8, 2) := by decide +kernel
theorem d_m_search_28 : decode M_m_search.2.1 28 = .ok (.invokestatic 85, 3) := by decide +kernel
theorem d_m_search_31 : decode M_m_search.2.1 31 = .ok (.ifCond .ne 27, 3) := by decide +kernel
theorem d_m_search_34 : decode M_m_search.2.1 34 = .ok (.aload_n 0, 1) := by decide +kernel
theorem d_m_search_35 : decode M_m_search.2.1 35 = .ok (.getfield 92, 3) := by decide +kernel
theorem d_m_search_38 : decode M_m_search.2.1 38 = .ok (.ifCond .ne 7, 3) := by decide +kernel
theorem d_m_search_41 : decode M_m_search.2.1 41 = .ok (.iconst (-1), 1) := by decide +kernel
theorem d_m_search_42 : decode M_m_search.2.1 42 = .ok (.goto 15, 3) := by decide +kernel
theorem d_m_search_45 : decode M_m_search.2.1 45 = .ok (.iload 6, 2) := by decide +kernel
theorem d_m_search_47 : decode M_m_search.2.1 47 = .ok (.ifCond .ne 8, 3) := by decide +kernel
theorem d_m_search_50 : decode M_m_search.2.1 50 = .ok (.bipush (-2), 2) := by decide +kernel
theorem d_m_search_52 : decode M_m_search.2.1 52 = .ok (.goto 5, 3) := by decide +kernel
theorem d_m_search_55 : decode M_m_search.2.1 55 = .ok (.bipush (-3), 2) := by decide +kernel
theorem d_m_search_57 : decode M_m_search.2.1 57 = .ok (.ireturn, 1) := by decide +kernel
theorem d_m_search_58 : decode M_m_search.2.1 58 = .ok (.aload_n 0, 1) := by decide +kernel
theorem d_m_search_59 : decode M_m_search.2.1 59 = .ok (.invokevirtual 89, 3) := by decide +kernel
theorem d_m_search_62 : decode M_m_search.2.1 62 = .ok (.iconst 0, 1) := by decide +kernel
theorem d_m_search_63 : decode M_m_search.2.1 63 = .ok (.istore 7, 2) := by decide +kernel
theorem d_m_search_65 : decode M_m_search.2.1 65 = .ok (.iload 7, 2) := by decide +kernel
theorem d_m_search_67 : decode M_m_search.2.1 67 = .ok (.iconst 4, 1) := by decide +kernel
theorem d_m_search_68 : decode M_m_search.2.1 68 = .ok (.if_icmp .ge 23, 3) := by decide +kernel
theorem d_m_search_71 : decode M_m_search.2.1 71 = .ok (.aload_n 0, 1) := by decide +kernel
theorem d_m_search_72 : decode M_m_search.2.1 72 = .ok (.getfield 47, 3) := by decide +kernel
theorem d_m_search_75 : decode M_m_search.2.1 75 = .ok (.iload 7, 2) := by decide +kernel
theorem d_m_search_77 : decode M_m_search.2.1 77 = .ok (.aload_n 0, 1) := by decide +kernel
theorem d_m_search_78 : decode M_m_search.2.1 78 = .ok (.getfield 41, 3) := by decide +kernel
theorem d_m_search_81 : decode M_m_search.2.1 81 = .ok (.iload 7, 2) := by decide +kernel
theorem d_m_search_83 : decode M_m_search.2.1 83 = .ok (.iaload, 1) := by decide +kernel
theorem d_m_search_84 : decode M_m_search.2.1 84 = .ok (.iastore, 1) := by decide +kernel
theorem d_m_search_85 : decode M_m_search.2.1 85 = .ok (.iinc 7 1, 3) := by decide +kernel
theorem d_m_search_88 : decode M_m_search.2.1 88 = .ok (.goto (-23), 3) := by decide +kernel
theorem d_m_search_91 : decode M_m_search.2.1 91 = .ok (.aload_n 0, 1) := by decide +kernel
theorem d_m_search_92 : decode M_m_search.2.1 92 = .ok (.iconst 0, 1) := by decide +kernel
theorem d_m_search_93 : decode M_m_search.2.1 93 = .ok (.putfield 185, 3) := by decide +kernel
theorem d_m_search_96 : decode M_m_search.2.1 96 = .ok (.iconst 0, 1) := by decide +kernel
theorem d_m_search_97 : decode M_m_search.2.1 97 = .ok (.istore 7, 2) := by decide +kernel
theorem d_m_search_99 : decode M_m_search.2.1 99 = .ok (.iload 7, 2) := by decide +kernel
theorem d_m_search_101 : decode M_m_search.2.1 101 = .ok (.sipush 1000, 3) := by decide +kernel
theorem d_m_search_104 : decode M_m_search.2.1 104 = .ok (.if_icmp .ge 25, 3) := by decide +kernel
theorem d_m_search_107 : decode M_m_search.2.1 107 = .ok (.aload_n 0, 1) := by decide +kernel
theorem d_m_search_108 : decode M_m_search.2.1 108 = .ok (.getfield 22, 3) := by decide +kernel
theorem d_m_search_111 : decode M_m_search.2.1 111 = .ok (.iload 7, 2) := by decide +kernel
theorem d_m_search_113 : decode M_m_search.2.1 113 = .ok (.baload, 1) := by decide +kernel
theorem d_m_search_114 : decode M_m_search.2.1 114 = .ok (.ifCond .eq 9, 3) := by decide +kernel
theorem d_m_search_117 : decode M_m_search.2.1 117 = .ok (.aload_n 0, 1) := by decide +kernel
theorem d_m_search_118 : decode M_m_search.2.1 118 = .ok (.iload 7, 2) := by decide +kernel
theorem d_m_search_120 : decode M_m_search.2.1 120 = .ok (.invokevirtual 188, 3) := by decide +kernel
theorem d_m_search_123 : decode M_m_search.2.1 123 = .ok (.iinc 7 1, 3) := by decide +kernel
theorem d_m_search_126 : decode M_m_search.2.1 126 = .ok (.goto (-27), 3) := by decide +kernel
theorem d_m_search_129 : decode M_m_search.2.1 129 = .ok (.aload_n 0, 1) := by decide +kernel
theorem d_m_search_130 : decode M_m_search.2.1 130 = .ok (.aload_n 0, 1) := by decide +kernel
theorem d_m_search_131 : decode M_m_search.2.1 131 = .ok (.getfield 185, 3) := by decide +kernel
theorem d_m_search_134 : decode M_m_search.2.1 134 = .ok (.iload 5, 2) := by decide +kernel
theorem d_m_search_136 : decode M_m_search.2.1 136 = .ok (.if_icmp .ge 10, 3) := by decide +kernel
theorem d_m_search_139 : decode M_m_search.2.1 139 = .ok (.aload_n 0, 1) := by decide +kernel
theorem d_m_search_140 : decode M_m_search.2.1 140 = .ok (.getfield 185, 3) := by decide +kernel
theorem d_m_search_143 : decode M_m_search.2.1 143 = .ok (.goto 5, 3) := by decide +kernel
theorem d_m_search_146 : decode M_m_search.2.1 146 = .ok (.iload 5, 2) := by decide +kernel
theorem d_m_search_148 : decode M_m_search.2.1 148 = .ok (.putfield 191, 3) := by decide +kernel
theorem d_m_search_151 : decode M_m_search.2.1 151 = .ok (.aload_n 0, 1) := by decide +kernel
theorem d_m_search_152 : decode M_m_search.2.1 152 = .ok (.getfield 182, 3) := by decide +kernel
theorem d_m_search_155 : decode M_m_search.2.1 155 = .ok (.ifCond .ne 8, 3) := by decide +kernel
theorem d_m_search_158 : decode M_m_search.2.1 158 = .ok (.iload 5, 2) := by decide +kernel
theorem d_m_search_160 : decode M_m_search.2.1 160 = .ok (.goto 10, 3) := by decide +kernel
theorem d_m_search_163 : decode M_m_search.2.1 163 = .ok (.iload 5, 2) := by decide +kernel
theorem d_m_search_165 : decode M_m_search.2.1 165 = .ok (.aload_n 0, 1) := by decide +kernel
theorem d_m_search_166 : decode M_m_search.2.1 166 = .ok (.getfield 182, 3) := by decide +kernel
theorem d_m_search_169 : decode M_m_search.2.1 169 = .ok (.imul, 1) := by decide +kernel
theorem d_m_search_170 : decode M_m_search.2.1 170 = .ok (.istore 7, 2) := by decide +kernel
theorem d_m_search_172 : decode M_m_search.2.1 172 = .ok (.iconst 0, 1) := by decide +kernel
theorem d_m_search_173 : decode M_m_search.2.1 173 = .ok (.istore 8, 2) := by decide +kernel
theorem d_m_search_175 : decode M_m_search.2.1 175 = .ok (.iload 8, 2) := by decide +kernel
theorem d_m_search_177 : decode M_m_search.2.1 177 = .ok (.aload_n 0, 1) := by decide +kernel
theorem d_m_search_178 : decode M_m_search.2.1 178 = .ok (.getfield 185, 3) := by decide +kernel
theorem d_m_search_181 : decode M_m_search.2.1 181 = .ok (.if_icmp .ge 78, 3) := by decide +kernel
theorem d_m_search_184 : decode M_m_search.2.1 184 = .ok (.aload_n 0, 1) := by decide +kernel
theorem d_m_search_185 : decode M_m_search.2.1 185 = .ok (.iload 8, 2) := by decide +kernel
theorem d_m_search_187 : decode M_m_search.2.1 187 = .ok (.invokevirtual 194, 3) := by decide +kernel
theorem d_m_search_190 : decode M_m_search.2.1 190 = .ok (.istore 9, 2) := by decide +kernel
theorem d_m_search_192 : decode M_m_search.2.1 192 = .ok (.aload_n 0, 1) := by decide +kernel
theorem d_m_search_193 : decode M_m_search.2.1 193 = .ok (.getfield 74, 3) := by decide +kernel
theorem d_m_search_196 : decode M_m_search.2.1 196 = .ok (.iload 8, 2) := by decide +kernel
theorem d_m_search_198 : decode M_m_search.2.1 198 = .ok (.iload 9, 2) := by decide +kernel
theorem d_m_search_200 : decode M_m_search.2.1 200 = .ok (.iload 7, 2) := by decide +kernel
theorem d_m_search_202 : decode M_m_search.2.1 202 = .ok (.if_icmp .ge 7, 3) := by decide +kernel
theorem d_m_search_205 : decode M_m_search.2.1 205 = .ok (.iconst 1, 1) := by decide +kernel
theorem d_m_search_206 : decode M_m_search.2.1 206 = .ok (.goto 4, 3) := by decide +kernel
theorem d_m_search_209 : decode M_m_search.2.1 209 = .ok (.iconst 0, 1) := by decide +kernel
theorem d_m_search_210 : decode M_m_search.2.1 210 = .ok (.bastore, 1) := by decide +kernel
theorem d_m_search_211 : decode M_m_search.2.1 211 = .ok (.aload_n 0, 1) := by decide +kernel
theorem d_m_search_212 : decode M_m_search.2.1 212 = .ok (.getfield 182, 3) := by decide +kernel
theorem d_m_search_215 : decode M_m_search.2.1 215 = .ok (.ifCond .ne 38, 3) := by decide +kernel
theorem d_m_search_218 : decode M_m_search.2.1 218 = .ok (.iload 9, 2) := by decide +kernel
theorem d_m_search_220 : decode M_m_search.2.1 220 = .ok (.iload 5, 2) := by decide +kernel
theorem d_m_search_222 : decode M_m_search.2.1 222 = .ok (.if_icmp .ge 31, 3) := by decide +kernel
theorem d_m_search_225 : decode M_m_search.2.1 225 = .ok (.aload_n 0, 1) := by decide +kernel
theorem d_m_search_226 : decode M_m_search.2.1 226 = .ok (.getfield 29, 3) := by decide +kernel
theorem d_m_search_229 : decode M_m_search.2.1 229 = .ok (.iload 9, 2) := by decide +kernel
theorem d_m_search_231 : decode M_m_search.2.1 231 = .ok (.aload_n 0, 1) := by decide +kernel
theorem d_m_search_232 : decode M_m_search.2.1 232 = .ok (.getfield 65, 3) := by decide +kernel
theorem d_m_search_235 : decode M_m_search.2.1 235 = .ok (.iload 8, 2) := by decide +kernel
theorem d_m_search_237 : decode M_m_search.2.1 237 = .ok (.iaload, 1) := by decide +kernel
theorem d_m_search_238 : decode M_m_search.2.1 238 = .ok (.iastore, 1) := by decide +kernel
theorem d_m_search_239 : decode M_m_search.2.1 239 = .ok (.aload_n 0, 1) := by decide +kernel
theorem d_m_search_240 : decode M_m_search.2.1 240 = .ok (.getfield 32, 3) := by decide +kernel
theorem d_m_search_243 : decode M_m_search.2.1 243 = .ok (.iload 9, 2) := by decide +kernel
theorem d_m_search_245 : decode M_m_search.2.1 245 = .ok (.aload_n 0, 1) := by decide +kernel
theorem d_m_search_246 : decode M_m_search.2.1 246 = .ok (.getfield 68, 3) := by decide +kernel
theorem d_m_search_249 : decode M_m_search.2.1 249 = .ok (.iload 8, 2) := by decide +kernel
theorem d_m_search_251 : decode M_m_search.2.1 251 = .ok (.iaload, 1) := by decide +kernel
theorem d_m_search_252 : decode M_m_search.2.1 252 = .ok (.iastore, 1) := by decide +kernel
theorem d_m_search_253 : decode M_m_search.2.1 253 = .ok (.iinc 8 1, 3) := by decide +kernel
theorem d_m_search_256 : decode M_m_search.2.1 256 = .ok (.goto (-81), 3) := by decide +kernel
theorem d_m_search_259 : decode M_m_search.2.1 259 = .ok (.iconst 0, 1) := by decide +kernel
theorem d_m_search_260 : decode M_m_search.2.1 260 = .ok (.istore 8, 2) := by decide +kernel
theorem d_m_search_262 : decode M_m_search.2.1 262 = .ok (.iload 8, 2) := by decide +kernel
theorem d_m_search_264 : decode M_m_search.2.1 264 = .ok (.aload_n 0, 1) := by decide +kernel
theorem d_m_search_265 : decode M_m_search.2.1 265 = .ok (.getfield 185, 3) := by decide +kernel
theorem d_m_search_268 : decode M_m_search.2.1 268 = .ok (.if_icmp .ge 69, 3) := by decide +kernel
theorem d_m_search_271 : decode M_m_search.2.1 271 = .ok (.aload_n 0, 1) := by decide +kernel
theorem d_m_search_272 : decode M_m_search.2.1 272 = .ok (.iload 8, 2) := by decide +kernel
theorem d_m_search_274 : decode M_m_search.2.1 274 = .ok (.invokevirtual 197, 3) := by decide +kernel
theorem d_m_search_277 : decode M_m_search.2.1 277 = .ok (.istore 9, 2) := by decide +kernel
theorem d_m_search_279 : decode M_m_search.2.1 279 = .ok (.aload_n 0, 1) := by decide +kernel
theorem d_m_search_280 : decode M_m_search.2.1 280 = .ok (.getfield 182, 3) := by decide +kernel
theorem d_m_search_283 : decode M_m_search.2.1 283 = .ok (.ifCond .le 48, 3) := by decide +kernel
theorem d_m_search_286 : decode M_m_search.2.1 286 = .ok (.aload_n 0, 1) := by decide +kernel
theorem d_m_search_287 : decode M_m_search.2.1 287 = .ok (.getfield 74, 3) := by decide +kernel
theorem d_m_search_290 : decode M_m_search.2.1 290 = .ok (.iload 8, 2) := by decide +kernel
theorem d_m_search_292 : decode M_m_search.2.1 292 = .ok (.baload, 1) := by decide +kernel
theorem d_m_search_293 : decode M_m_search.2.1 293 = .ok (.ifCond .eq 38, 3) := by decide +kernel
theorem d_m_search_296 : decode M_m_search.2.1 296 = .ok (.iload 9, 2) := by decide +kernel
theorem d_m_search_298 : decode M_m_search.2.1 298 = .ok (.iload 5, 2) := by decide +kernel
theorem d_m_search_300 : decode M_m_search.2.1 300 = .ok (.if_icmp .ge 31, 3) := by decide +kernel
theorem d_m_search_303 : decode M_m_search.2.1 303 = .ok (.aload_n 0, 1) := by decide +kernel
theorem d_m_search_304 : decode M_m_search.2.1 304 = .ok (.getfield 29, 3) := by decide +kernel
theorem d_m_search_307 : decode M_m_search.2.1 307 = .ok (.iload 9, 2) := by decide +kernel
theorem d_m_search_309 : decode M_m_search.2.1 309 = .ok (.aload_n 0, 1) := by decide +kernel
theorem d_m_search_310 : decode M_m_search.2.1 310 = .ok (.getfield 65, 3) := by decide +kernel
theorem d_m_search_313 : decode M_m_search.2.1 313 = .ok (.iload 8, 2) := by decide +kernel
theorem d_m_search_315 : decode M_m_search.2.1 315 = .ok (.iaload, 1) := by decide +kernel
theorem d_m_search_316 : decode M_m_search.2.1 316 = .ok (.iastore, 1) := by decide +kernel
theorem d_m_search_317 : decode M_m_search.2.1 317 = .ok (.aload_n 0, 1) := by decide +kernel
theorem d_m_search_318 : decode M_m_search.2.1 318 = .ok (.getfield 32, 3) := by decide +kernel
theorem d_m_search_321 : decode M_m_search.2.1 321 = .ok (.iload 9, 2) := by decide +kernel
theorem d_m_search_323 : decode M_m_search.2.1 323 = .ok (.aload_n 0, 1) := by decide +kernel
theorem d_m_search_324 : decode M_m_search.2.1 324 = .ok (.getfield 71, 3) := by decide +kernel
theorem d_m_search_327 : decode M_m_search.2.1 327 = .ok (.iload 8, 2) := by decide +kernel
theorem d_m_search_329 : decode M_m_search.2.1 329 = .ok (.iaload, 1) := by decide +kernel
theorem d_m_search_330 : decode M_m_search.2.1 330 = .ok (.iastore, 1) := by decide +kernel
theorem d_m_search_331 : decode M_m_search.2.1 331 = .ok (.iinc 8 1, 3) := by decide +kernel
theorem d_m_search_334 : decode M_m_search.2.1 334 = .ok (.goto (-72), 3) := by decide +kernel
theorem d_m_search_337 : decode M_m_search.2.1 337 = .ok (.aload_n 0, 1) := by decide +kernel
theorem d_m_search_338 : decode M_m_search.2.1 338 = .ok (.getfield 191, 3) := by decide +kernel
theorem d_m_search_341 : decode M_m_search.2.1 341 = .ok (.ireturn, 1) := by decide +kernel
theorem d_m_measure_0 : decode M_m_measure.2.1 0 = .ok (.aload_n 0, 1) := by decide +kernel
theorem d_m_measure_1 : decode M_m_measure.2.1 1 = .ok (.iload_n 1, 1) := by decide +kernel
theorem d_m_measure_2 : decode M_m_measure.2.1 2 = .ok (.invokevirtual 176, 3) := by decide +kernel
theorem d_m_measure_5 : decode M_m_measure.2.1 5 = .ok (.aload_n 0, 1) := by decide +kernel
theorem d_m_measure_6 : decode M_m_measure.2.1 6 = .ok (.invokevirtual 170, 3) := by decide +kernel
theorem d_m_measure_9 : decode M_m_measure.2.1 9 = .ok (.istore_n 2, 1) := by decide +kernel
theorem d_m_measure_10 : decode M_m_measure.2.1 10 = .ok (.aload_n 0, 1) := by decide +kernel
theorem d_m_measure_11 : decode M_m_measure.2.1 11 = .ok (.iload_n 2, 1) := by decide +kernel
theorem d_m_measure_12 : decode M_m_measure.2.1 12 = .ok (.invokevirtual 200, 3) := by decide +kernel
theorem d_m_measure_15 : decode M_m_measure.2.1 15 = .ok (.ifCond .ne 4, 3) := by decide +kernel
theorem d_m_measure_18 : decode M_m_measure.2.1 18 = .ok (.return_, 1) := by decide +kernel
theorem d_m_measure_19 : decode M_m_measure.2.1 19 = .ok (.aload_n 0, 1) := by decide +kernel
theorem d_m_measure_20 : decode M_m_measure.2.1 20 = .ok (.iload_n 1, 1) := by decide +kernel
theorem d_m_measure_21 : decode M_m_measure.2.1 21 = .ok (.invokevirtual 176, 3) := by decide +kernel
theorem d_m_measure_24 : decode M_m_measure.2.1 24 = .ok (.iconst 0, 1) := by decide +kernel
theorem d_m_measure_25 : decode M_m_measure.2.1 25 = .ok (.istore_n 3, 1) := by decide +kernel
theorem d_m_measure_26 : decode M_m_measure.2.1 26 = .ok (.iconst 0, 1) := by decide +kernel
theorem d_m_measure_27 : decode M_m_measure.2.1 27 = .ok (.istore 4, 2) := by decide +kernel
theorem d_m_measure_29 : decode M_m_measure.2.1 29 = .ok (.iload 4, 2) := by decide +kernel
theorem d_m_measure_31 : decode M_m_measure.2.1 31 = .ok (.iconst 4, 1) := by decide +kernel
theorem d_m_measure_32 : decode M_m_measure.2.1 32 = .ok (.if_icmp .ge 34, 3) := by decide +kernel
theorem d_m_measure_35 : decode M_m_measure.2.1 35 = .ok (.aload_n 0, 1) := by decide +kernel
theorem d_m_measure_36 : decode M_m_measure.2.1 36 = .ok (.getfield 41, 3) := by decide +kernel
theorem d_m_measure_39 : decode M_m_measure.2.1 39 = .ok (.iload 4, 2) := by decide +kernel
theorem d_m_measure_41 : decode M_m_measure.2.1 41 = .ok (.iaload, 1) := by decide +kernel
theorem d_m_measure_42 : decode M_m_measure.2.1 42 = .ok (.aload_n 0, 1) := by decide +kernel
theorem d_m_measure_43 : decode M_m_measure.2.1 43 = .ok (.getfield 47, 3) := by decide +kernel
theorem d_m_measure_46 : decode M_m_measure.2.1 46 = .ok (.iload 4, 2) := by decide +kernel
theorem d_m_measure_48 : decode M_m_measure.2.1 48 = .ok (.iaload, 1) := by decide +kernel
theorem d_m_measure_49 : decode M_m_measure.2.1 49 = .ok (.isub, 1) := by decide +kernel
theorem d_m_measure_50 : decode M_m_measure.2.1 50 = .ok (.istore 5, 2) := by decide +kernel
theorem d_m_measure_52 : decode M_m_measure.2.1 52 = .ok (.iload_n 3, 1) := by decide +kernel
theorem d_m_measure_53 : decode M_m_measure.2.1 53 = .ok (.iload 5, 2) := by decide +kernel
theorem d_m_measure_55 : decode M_m_measure.2.1 55 = .ok (.iload 5, 2) := by decide +kernel
theorem d_m_measure_57 : decode M_m_measure.2.1 57 = .ok (.imul, 1) := by decide +kernel
theorem d_m_measure_58 : decode M_m_measure.2.1 58 = .ok (.iadd, 1) := by decide +kernel
theorem d_m_measure_59 : decode M_m_measure.2.1 59 = .ok (.istore_n 3, 1) := by decide +kernel
theorem d_m_measure_60 : decode M_m_measure.2.1 60 = .ok (.iinc 4 1, 3) := by decide +kernel
theorem d_m_measure_63 : decode M_m_measure.2.1 63 = .ok (.goto (-34), 3) := by decide +kernel
theorem d_m_measure_66 : decode M_m_measure.2.1 66 = .ok (.aload_n 0, 1) := by decide +kernel
theorem d_m_measure_67 : decode M_m_measure.2.1 67 = .ok (.getfield 128, 3) := by decide +kernel
theorem d_m_measure_70 : decode M_m_measure.2.1 70 = .ok (.iconst 2, 1) := by decide +kernel
theorem d_m_measure_71 : decode M_m_measure.2.1 71 = .ok (.if_icmp .ne 7, 3) := by decide +kernel
theorem d_m_measure_74 : decode M_m_measure.2.1 74 = .ok (.iload_n 3, 1) := by decide +kernel
theorem d_m_measure_75 : decode M_m_measure.2.1 75 = .ok (.goto 4, 3) := by decide +kernel
theorem d_m_measure_78 : decode M_m_measure.2.1 78 = .ok (.iconst 0, 1) := by decide +kernel
theorem d_m_measure_79 : decode M_m_measure.2.1 79 = .ok (.istore 4, 2) := by decide +kernel
theorem d_m_measure_81 : decode M_m_measure.2.1 81 = .ok (.iconst 0, 1) := by decide +kernel
theorem d_m_measure_82 : decode M_m_measure.2.1 82 = .ok (.istore 5, 2) := by decide +kernel
theorem d_m_measure_84 : decode M_m_measure.2.1 84 = .ok (.iload 5, 2) := by decide +kernel
theorem d_m_measure_86 : decode M_m_measure.2.1 86 = .ok (.aload_n 0, 1) := by decide +kernel
theorem d_m_measure_87 : decode M_m_measure.2.1 87 = .ok (.invokevirtual 144, 3) := by decide +kernel
theorem d_m_measure_90 : decode M_m_measure.2.1 90 = .ok (.if_icmp .ge 76, 3) := by decide +kernel
theorem d_m_measure_93 : decode M_m_measure.2.1 93 = .ok (.aload_n 0, 1) := by decide +kernel
theorem d_m_measure_94 : decode M_m_measure.2.1 94 = .ok (.iload_n 2, 1) := by decide +kernel
theorem d_m_measure_95 : decode M_m_measure.2.1 95 = .ok (.invokevirtual 179, 3) := by decide +kernel
theorem d_m_measure_98 : decode M_m_measure.2.1 98 = .ok (.aload_n 0, 1) := by decide +kernel
theorem d_m_measure_99 : decode M_m_measure.2.1 99 = .ok (.iload 5, 2) := by decide +kernel
theorem d_m_measure_101 : decode M_m_measure.2.1 101 = .ok (.invokevirtual 158, 3) := by decide +kernel
theorem d_m_measure_104 : decode M_m_measure.2.1 104 = .ok (.istore 6, 2) := by decide +kernel
theorem d_m_measure_106 : decode M_m_measure.2.1 106 = .ok (.iconst 0, 1) := by decide +kernel
theorem d_m_measure_107 : decode M_m_measure.2.1 107 = .ok (.istore 7, 2) := by decide +kernel
theorem d_m_measure_109 : decode M_m_measure.2.1 109 = .ok (.iload 7, 2) := by decide +kernel
theorem d_m_measure_111 : decode M_m_measure.2.1 111 = .ok (.iconst 4, 1) := by decide +kernel
theorem d_m_measure_112 : decode M_m_measure.2.1 112 = .ok (.if_icmp .ge 35, 3) := by decide +kernel
theorem d_m_measure_115 : decode M_m_measure.2.1 115 = .ok (.aload_n 0, 1) := by decide +kernel
theorem d_m_measure_116 : decode M_m_measure.2.1 116 = .ok (.getfield 44, 3) := by decide +kernel
theorem d_m_measure_119 : decode M_m_measure.2.1 119 = .ok (.iload 7, 2) := by decide +kernel
theorem d_m_measure_121 : decode M_m_measure.2.1 121 = .ok (.aload_n 0, 1) := by decide +kernel
theorem d_m_measure_122 : decode M_m_measure.2.1 122 = .ok (.getfield 47, 3) := by decide +kernel
theorem d_m_measure_125 : decode M_m_measure.2.1 125 = .ok (.iload 7, 2) := by decide +kernel
theorem d_m_measure_127 : decode M_m_measure.2.1 127 = .ok (.iaload, 1) := by decide +kernel
theorem d_m_measure_128 : decode M_m_measure.2.1 128 = .ok (.aload_n 0, 1) := by decide +kernel
theorem d_m_measure_129 : decode M_m_measure.2.1 129 = .ok (.getfield 16, 3) := by decide +kernel
theorem d_m_measure_132 : decode M_m_measure.2.1 132 = .ok (.iconst 4, 1) := by decide +kernel
theorem d_m_measure_133 : decode M_m_measure.2.1 133 = .ok (.iload_n 2, 1) := by decide +kernel
theorem d_m_measure_134 : decode M_m_measure.2.1 134 = .ok (.imul, 1) := by decide +kernel
theorem d_m_measure_135 : decode M_m_measure.2.1 135 = .ok (.iload 7, 2) := by decide +kernel
theorem d_m_measure_137 : decode M_m_measure.2.1 137 = .ok (.iadd, 1) := by decide +kernel
theorem d_m_measure_138 : decode M_m_measure.2.1 138 = .ok (.iaload, 1) := by decide +kernel
theorem d_m_measure_139 : decode M_m_measure.2.1 139 = .ok (.isub, 1) := by decide +kernel
theorem d_m_measure_140 : decode M_m_measure.2.1 140 = .ok (.iastore, 1) := by decide +kernel
theorem d_m_measure_141 : decode M_m_measure.2.1 141 = .ok (.iinc 7 1, 3) := by decide +kernel
theorem d_m_measure_144 : decode M_m_measure.2.1 144 = .ok (.goto (-35), 3) := by decide +kernel
theorem d_m_measure_147 : decode M_m_measure.2.1 147 = .ok (.iload 4, 2) := by decide +kernel
theorem d_m_measure_149 : decode M_m_measure.2.1 149 = .ok (.aload_n 0, 1) := by decide +kernel
theorem d_m_measure_150 : decode M_m_measure.2.1 150 = .ok (.iload 5, 2) := by decide +kernel
theorem d_m_measure_152 : decode M_m_measure.2.1 152 = .ok (.iload 6, 2) := by decide +kernel
theorem d_m_measure_154 : decode M_m_measure.2.1 154 = .ok (.invokevirtual 161, 3) := by decide +kernel
theorem d_m_measure_157 : decode M_m_measure.2.1 157 = .ok (.iadd, 1) := by decide +kernel
theorem d_m_measure_158 : decode M_m_measure.2.1 158 = .ok (.istore 4, 2) := by decide +kernel
theorem d_m_measure_160 : decode M_m_measure.2.1 160 = .ok (.iinc 5 1, 3) := by decide +kernel
theorem d_m_measure_163 : decode M_m_measure.2.1 163 = .ok (.goto (-79), 3) := by decide +kernel
theorem d_m_measure_166 : decode M_m_measure.2.1 166 = .ok (.aload_n 0, 1) := by decide +kernel
theorem d_m_measure_167 : decode M_m_measure.2.1 167 = .ok (.getfield 65, 3) := by decide +kernel
theorem d_m_measure_170 : decode M_m_measure.2.1 170 = .ok (.aload_n 0, 1) := by decide +kernel
theorem d_m_measure_171 : decode M_m_measure.2.1 171 = .ok (.getfield 185, 3) := by decide +kernel
theorem d_m_measure_174 : decode M_m_measure.2.1 174 = .ok (.iload_n 1, 1) := by decide +kernel
theorem d_m_measure_175 : decode M_m_measure.2.1 175 = .ok (.iastore, 1) := by decide +kernel
theorem d_m_measure_176 : decode M_m_measure.2.1 176 = .ok (.aload_n 0, 1) := by decide +kernel
theorem d_m_measure_177 : decode M_m_measure.2.1 177 = .ok (.getfield 68, 3) := by decide +kernel
theorem d_m_measure_180 : decode M_m_measure.2.1 180 = .ok (.aload_n 0, 1) := by decide +kernel
theorem d_m_measure_181 : decode M_m_measure.2.1 181 = .ok (.getfield 185, 3) := by decide +kernel
theorem d_m_measure_184 : decode M_m_measure.2.1 184 = .ok (.iload 4, 2) := by decide +kernel
theorem d_m_measure_186 : decode M_m_measure.2.1 186 = .ok (.iastore, 1) := by decide +kernel
theorem d_m_measure_187 : decode M_m_measure.2.1 187 = .ok (.aload_n 0, 1) := by decide +kernel
theorem d_m_measure_188 : decode M_m_measure.2.1 188 = .ok (.getfield 71, 3) := by decide +kernel
theorem d_m_measure_191 : decode M_m_measure.2.1 191 = .ok (.aload_n 0, 1) := by decide +kernel
theorem d_m_measure_192 : decode M_m_measure.2.1 192 = .ok (.getfield 185, 3) := by decide +kernel
theorem d_m_measure_195 : decode M_m_measure.2.1 195 = .ok (.iload_n 3, 1) := by decide +kernel
theorem d_m_measure_196 : decode M_m_measure.2.1 196 = .ok (.iastore, 1) := by decide +kernel
theorem d_m_measure_197 : decode M_m_measure.2.1 197 = .ok (.aload_n 0, 1) := by decide +kernel
theorem d_m_measure_198 : decode M_m_measure.2.1 198 = .ok (.dup, 1) := by decide +kernel
theorem d_m_measure_199 : decode M_m_measure.2.1 199 = .ok (.getfield 185, 3) := by decide +kernel
theorem d_m_measure_202 : decode M_m_measure.2.1 202 = .ok (.iconst 1, 1) := by decide +kernel
theorem d_m_measure_203 : decode M_m_measure.2.1 203 = .ok (.iadd, 1) := by decide +kernel
theorem d_m_measure_204 : decode M_m_measure.2.1 204 = .ok (.putfield 185, 3) := by decide +kernel
theorem d_m_measure_207 : decode M_m_measure.2.1 207 = .ok (.return_, 1) := by decide +kernel
theorem d_m_probed_0 : decode M_m_probed.2.1 0 = .ok (.iconst 0, 1) := by decide +kernel
theorem d_m_probed_1 : decode M_m_probed.2.1 1 = .ok (.istore_n 2, 1) := by decide +kernel
theorem d_m_probed_2 : decode M_m_probed.2.1 2 = .ok (.iconst 0, 1) := by decide +kernel
theorem d_m_probed_3 : decode M_m_probed.2.1 3 = .ok (.istore_n 3, 1) := by decide +kernel
theorem d_m_probed_4 : decode M_m_probed.2.1 4 = .ok (.iload_n 3, 1) := by decide +kernel
theorem d_m_probed_5 : decode M_m_probed.2.1 5 = .ok (.iconst 4, 1) := by decide +kernel
theorem d_m_probed_6 : decode M_m_probed.2.1 6 = .ok (.if_icmp .ge 21, 3) := by decide +kernel
theorem d_m_probed_9 : decode M_m_probed.2.1 9 = .ok (.aload_n 0, 1) := by decide +kernel
theorem d_m_probed_10 : decode M_m_probed.2.1 10 = .ok (.getfield 41, 3) := by decide +kernel
theorem d_m_probed_13 : decode M_m_probed.2.1 13 = .ok (.iload_n 3, 1) := by decide +kernel
theorem d_m_probed_14 : decode M_m_probed.2.1 14 = .ok (.aload_n 0, 1) := by decide +kernel
theorem d_m_probed_15 : decode M_m_probed.2.1 15 = .ok (.getfield 47, 3) := by decide +kernel
theorem d_m_probed_18 : decode M_m_probed.2.1 18 = .ok (.iload_n 3, 1) := by decide +kernel
theorem d_m_probed_19 : decode M_m_probed.2.1 19 = .ok (.iaload, 1) := by decide +kernel
theorem d_m_probed_20 : decode M_m_probed.2.1 20 = .ok (.iastore, 1) := by decide +kernel
theorem d_m_probed_21 : decode M_m_probed.2.1 21 = .ok (.iinc 3 1, 3) := by decide +kernel
theorem d_m_probed_24 : decode M_m_probed.2.1 24 = .ok (.goto (-20), 3) := by decide +kernel
theorem d_m_probed_27 : decode M_m_probed.2.1 27 = .ok (.aload_n 0, 1) := by decide +kernel
theorem d_m_probed_28 : decode M_m_probed.2.1 28 = .ok (.iload_n 1, 1) := by decide +kernel
theorem d_m_probed_29 : decode M_m_probed.2.1 29 = .ok (.invokevirtual 167, 3) := by decide +kernel
theorem d_m_probed_32 : decode M_m_probed.2.1 32 = .ok (.istore_n 3, 1) := by decide +kernel
theorem d_m_probed_33 : decode M_m_probed.2.1 33 = .ok (.iconst 0, 1) := by decide +kernel
theorem d_m_probed_34 : decode M_m_probed.2.1 34 = .ok (.istore 4, 2) := by decide +kernel
theorem d_m_probed_36 : decode M_m_probed.2.1 36 = .ok (.iload 4, 2) := by decide +kernel
theorem d_m_probed_38 : decode M_m_probed.2.1 38 = .ok (.aload_n 0, 1) := by decide +kernel
theorem d_m_probed_39 : decode M_m_probed.2.1 39 = .ok (.getfield 134, 3) := by decide +kernel
theorem d_m_probed_42 : decode M_m_probed.2.1 42 = .ok (.if_icmp .ge 43, 3) := by decide +kernel
theorem d_m_probed_45 : decode M_m_probed.2.1 45 = .ok (.aload_n 0, 1) := by decide +kernel
theorem d_m_probed_46 : decode M_m_probed.2.1 46 = .ok (.iload 4, 2) := by decide +kernel
theorem d_m_probed_48 : decode M_m_probed.2.1 48 = .ok (.invokevirtual 167, 3) := by decide +kernel
theorem d_m_probed_51 : decode M_m_probed.2.1 51 = .ok (.istore 5, 2) := by decide +kernel
theorem d_m_probed_53 : decode M_m_probed.2.1 53 = .ok (.iload_n 2, 1) := by decide +kernel
theorem d_m_probed_54 : decode M_m_probed.2.1 54 = .ok (.iload 5, 2) := by decide +kernel
theorem d_m_probed_56 : decode M_m_probed.2.1 56 = .ok (.iload_n 3, 1) := by decide +kernel
theorem d_m_probed_57 : decode M_m_probed.2.1 57 = .ok (.if_icmp .lt 15, 3) := by decide +kernel
theorem d_m_probed_60 : decode M_m_probed.2.1 60 = .ok (.iload 5, 2) := by decide +kernel
theorem d_m_probed_62 : decode M_m_probed.2.1 62 = .ok (.iload_n 3, 1) := by decide +kernel
theorem d_m_probed_63 : decode M_m_probed.2.1 63 = .ok (.if_icmp .ne 13, 3) := by decide +kernel
theorem d_m_probed_66 : decode M_m_probed.2.1 66 = .ok (.iload 4, 2) := by decide +kernel
