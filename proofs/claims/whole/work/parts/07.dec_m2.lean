theorem d_m_cluster_81 : decode M_m_cluster.2.1 81 = .ok (.if_icmp .ge 33, 3) := by decide +kernel
theorem d_m_cluster_84 : decode M_m_cluster.2.1 84 = .ok (.aload_n 0, 1) := by decide +kernel
theorem d_m_cluster_85 : decode M_m_cluster.2.1 85 = .ok (.getfield 56, 3) := by decide +kernel
theorem d_m_cluster_88 : decode M_m_cluster.2.1 88 = .ok (.iconst 4, 1) := by decide +kernel
theorem d_m_cluster_89 : decode M_m_cluster.2.1 89 = .ok (.iload 4, 2) := by decide +kernel
theorem d_m_cluster_91 : decode M_m_cluster.2.1 91 = .ok (.imul, 1) := by decide +kernel
theorem d_m_cluster_92 : decode M_m_cluster.2.1 92 = .ok (.iload 7, 2) := by decide +kernel
theorem d_m_cluster_94 : decode M_m_cluster.2.1 94 = .ok (.iadd, 1) := by decide +kernel
theorem d_m_cluster_95 : decode M_m_cluster.2.1 95 = .ok (.aload_n 0, 1) := by decide +kernel
theorem d_m_cluster_96 : decode M_m_cluster.2.1 96 = .ok (.getfield 50, 3) := by decide +kernel
theorem d_m_cluster_99 : decode M_m_cluster.2.1 99 = .ok (.iconst 4, 1) := by decide +kernel
theorem d_m_cluster_100 : decode M_m_cluster.2.1 100 = .ok (.iload 5, 2) := by decide +kernel
theorem d_m_cluster_102 : decode M_m_cluster.2.1 102 = .ok (.imul, 1) := by decide +kernel
theorem d_m_cluster_103 : decode M_m_cluster.2.1 103 = .ok (.iload 7, 2) := by decide +kernel
theorem d_m_cluster_105 : decode M_m_cluster.2.1 105 = .ok (.iadd, 1) := by decide +kernel
theorem d_m_cluster_106 : decode M_m_cluster.2.1 106 = .ok (.iaload, 1) := by decide +kernel
theorem d_m_cluster_107 : decode M_m_cluster.2.1 107 = .ok (.iastore, 1) := by decide +kernel
theorem d_m_cluster_108 : decode M_m_cluster.2.1 108 = .ok (.iinc 7 1, 3) := by decide +kernel
theorem d_m_cluster_111 : decode M_m_cluster.2.1 111 = .ok (.goto (-33), 3) := by decide +kernel
theorem d_m_cluster_114 : decode M_m_cluster.2.1 114 = .ok (.iinc 4 1, 3) := by decide +kernel
theorem d_m_cluster_117 : decode M_m_cluster.2.1 117 = .ok (.goto (-114), 3) := by decide +kernel
theorem d_m_cluster_120 : decode M_m_cluster.2.1 120 = .ok (.iconst 0, 1) := by decide +kernel
theorem d_m_cluster_121 : decode M_m_cluster.2.1 121 = .ok (.istore 4, 2) := by decide +kernel
theorem d_m_cluster_123 : decode M_m_cluster.2.1 123 = .ok (.iload 4, 2) := by decide +kernel
theorem d_m_cluster_125 : decode M_m_cluster.2.1 125 = .ok (.iload_n 3, 1) := by decide +kernel
theorem d_m_cluster_126 : decode M_m_cluster.2.1 126 = .ok (.if_icmp .ge 70, 3) := by decide +kernel
theorem d_m_cluster_129 : decode M_m_cluster.2.1 129 = .ok (.iconst 0, 1) := by decide +kernel
theorem d_m_cluster_130 : decode M_m_cluster.2.1 130 = .ok (.istore 5, 2) := by decide +kernel
theorem d_m_cluster_132 : decode M_m_cluster.2.1 132 = .ok (.iload 5, 2) := by decide +kernel
theorem d_m_cluster_134 : decode M_m_cluster.2.1 134 = .ok (.aload_n 0, 1) := by decide +kernel
theorem d_m_cluster_135 : decode M_m_cluster.2.1 135 = .ok (.getfield 103, 3) := by decide +kernel
theorem d_m_cluster_138 : decode M_m_cluster.2.1 138 = .ok (.if_icmp .ge 24, 3) := by decide +kernel
theorem d_m_cluster_141 : decode M_m_cluster.2.1 141 = .ok (.aload_n 0, 1) := by decide +kernel
theorem d_m_cluster_142 : decode M_m_cluster.2.1 142 = .ok (.getfield 59, 3) := by decide +kernel
theorem d_m_cluster_145 : decode M_m_cluster.2.1 145 = .ok (.iload 5, 2) := by decide +kernel
theorem d_m_cluster_147 : decode M_m_cluster.2.1 147 = .ok (.aload_n 0, 1) := by decide +kernel
theorem d_m_cluster_148 : decode M_m_cluster.2.1 148 = .ok (.iload 5, 2) := by decide +kernel
theorem d_m_cluster_150 : decode M_m_cluster.2.1 150 = .ok (.iload_n 1, 1) := by decide +kernel
theorem d_m_cluster_151 : decode M_m_cluster.2.1 151 = .ok (.iload_n 2, 1) := by decide +kernel
theorem d_m_cluster_152 : decode M_m_cluster.2.1 152 = .ok (.invokevirtual 110, 3) := by decide +kernel
theorem d_m_cluster_155 : decode M_m_cluster.2.1 155 = .ok (.iastore, 1) := by decide +kernel
theorem d_m_cluster_156 : decode M_m_cluster.2.1 156 = .ok (.iinc 5 1, 3) := by decide +kernel
theorem d_m_cluster_159 : decode M_m_cluster.2.1 159 = .ok (.goto (-27), 3) := by decide +kernel
theorem d_m_cluster_162 : decode M_m_cluster.2.1 162 = .ok (.iconst 0, 1) := by decide +kernel
theorem d_m_cluster_163 : decode M_m_cluster.2.1 163 = .ok (.istore 5, 2) := by decide +kernel
theorem d_m_cluster_165 : decode M_m_cluster.2.1 165 = .ok (.iload 5, 2) := by decide +kernel
theorem d_m_cluster_167 : decode M_m_cluster.2.1 167 = .ok (.iload_n 1, 1) := by decide +kernel
theorem d_m_cluster_168 : decode M_m_cluster.2.1 168 = .ok (.if_icmp .ge 16, 3) := by decide +kernel
theorem d_m_cluster_171 : decode M_m_cluster.2.1 171 = .ok (.aload_n 0, 1) := by decide +kernel
theorem d_m_cluster_172 : decode M_m_cluster.2.1 172 = .ok (.iload 5, 2) := by decide +kernel
theorem d_m_cluster_174 : decode M_m_cluster.2.1 174 = .ok (.iload_n 2, 1) := by decide +kernel
theorem d_m_cluster_175 : decode M_m_cluster.2.1 175 = .ok (.invokevirtual 113, 3) := by decide +kernel
theorem d_m_cluster_178 : decode M_m_cluster.2.1 178 = .ok (.iinc 5 1, 3) := by decide +kernel
theorem d_m_cluster_181 : decode M_m_cluster.2.1 181 = .ok (.goto (-16), 3) := by decide +kernel
theorem d_m_cluster_184 : decode M_m_cluster.2.1 184 = .ok (.aload_n 0, 1) := by decide +kernel
theorem d_m_cluster_185 : decode M_m_cluster.2.1 185 = .ok (.iload_n 1, 1) := by decide +kernel
theorem d_m_cluster_186 : decode M_m_cluster.2.1 186 = .ok (.iload_n 2, 1) := by decide +kernel
theorem d_m_cluster_187 : decode M_m_cluster.2.1 187 = .ok (.invokevirtual 117, 3) := by decide +kernel
theorem d_m_cluster_190 : decode M_m_cluster.2.1 190 = .ok (.iinc 4 1, 3) := by decide +kernel
theorem d_m_cluster_193 : decode M_m_cluster.2.1 193 = .ok (.goto (-70), 3) := by decide +kernel
theorem d_m_cluster_196 : decode M_m_cluster.2.1 196 = .ok (.return_, 1) := by decide +kernel
theorem d_m_nearest_0 : decode M_m_nearest.2.1 0 = .ok (.iconst 0, 1) := by decide +kernel
theorem d_m_nearest_1 : decode M_m_nearest.2.1 1 = .ok (.istore 4, 2) := by decide +kernel
theorem d_m_nearest_3 : decode M_m_nearest.2.1 3 = .ok (.iload_n 2, 1) := by decide +kernel
theorem d_m_nearest_4 : decode M_m_nearest.2.1 4 = .ok (.iconst 1, 1) := by decide +kernel
theorem d_m_nearest_5 : decode M_m_nearest.2.1 5 = .ok (.isub, 1) := by decide +kernel
theorem d_m_nearest_6 : decode M_m_nearest.2.1 6 = .ok (.istore 5, 2) := by decide +kernel
theorem d_m_nearest_8 : decode M_m_nearest.2.1 8 = .ok (.iload 5, 2) := by decide +kernel
theorem d_m_nearest_10 : decode M_m_nearest.2.1 10 = .ok (.ifCond .lt 32, 3) := by decide +kernel
theorem d_m_nearest_13 : decode M_m_nearest.2.1 13 = .ok (.aload_n 0, 1) := by decide +kernel
theorem d_m_nearest_14 : decode M_m_nearest.2.1 14 = .ok (.iload_n 1, 1) := by decide +kernel
theorem d_m_nearest_15 : decode M_m_nearest.2.1 15 = .ok (.iload 5, 2) := by decide +kernel
theorem d_m_nearest_17 : decode M_m_nearest.2.1 17 = .ok (.iload_n 3, 1) := by decide +kernel
theorem d_m_nearest_18 : decode M_m_nearest.2.1 18 = .ok (.invokevirtual 106, 3) := by decide +kernel
theorem d_m_nearest_21 : decode M_m_nearest.2.1 21 = .ok (.aload_n 0, 1) := by decide +kernel
theorem d_m_nearest_22 : decode M_m_nearest.2.1 22 = .ok (.iload_n 1, 1) := by decide +kernel
theorem d_m_nearest_23 : decode M_m_nearest.2.1 23 = .ok (.iload 4, 2) := by decide +kernel
theorem d_m_nearest_25 : decode M_m_nearest.2.1 25 = .ok (.iload_n 3, 1) := by decide +kernel
theorem d_m_nearest_26 : decode M_m_nearest.2.1 26 = .ok (.invokevirtual 106, 3) := by decide +kernel
theorem d_m_nearest_29 : decode M_m_nearest.2.1 29 = .ok (.if_icmp .gt 7, 3) := by decide +kernel
theorem d_m_nearest_32 : decode M_m_nearest.2.1 32 = .ok (.iload 5, 2) := by decide +kernel
theorem d_m_nearest_34 : decode M_m_nearest.2.1 34 = .ok (.istore 4, 2) := by decide +kernel
theorem d_m_nearest_36 : decode M_m_nearest.2.1 36 = .ok (.iinc 5 (-1), 3) := by decide +kernel
theorem d_m_nearest_39 : decode M_m_nearest.2.1 39 = .ok (.goto (-31), 3) := by decide +kernel
theorem d_m_nearest_42 : decode M_m_nearest.2.1 42 = .ok (.iload 4, 2) := by decide +kernel
theorem d_m_nearest_44 : decode M_m_nearest.2.1 44 = .ok (.ireturn, 1) := by decide +kernel
theorem d_m_gap_0 : decode M_m_gap.2.1 0 = .ok (.iconst 0, 1) := by decide +kernel
theorem d_m_gap_1 : decode M_m_gap.2.1 1 = .ok (.istore 4, 2) := by decide +kernel
theorem d_m_gap_3 : decode M_m_gap.2.1 3 = .ok (.iconst 0, 1) := by decide +kernel
theorem d_m_gap_4 : decode M_m_gap.2.1 4 = .ok (.istore 5, 2) := by decide +kernel
theorem d_m_gap_6 : decode M_m_gap.2.1 6 = .ok (.iload 5, 2) := by decide +kernel
theorem d_m_gap_8 : decode M_m_gap.2.1 8 = .ok (.iload_n 3, 1) := by decide +kernel
theorem d_m_gap_9 : decode M_m_gap.2.1 9 = .ok (.if_icmp .ge 44, 3) := by decide +kernel
theorem d_m_gap_12 : decode M_m_gap.2.1 12 = .ok (.aload_n 0, 1) := by decide +kernel
theorem d_m_gap_13 : decode M_m_gap.2.1 13 = .ok (.getfield 50, 3) := by decide +kernel
theorem d_m_gap_16 : decode M_m_gap.2.1 16 = .ok (.iconst 4, 1) := by decide +kernel
theorem d_m_gap_17 : decode M_m_gap.2.1 17 = .ok (.iload_n 1, 1) := by decide +kernel
theorem d_m_gap_18 : decode M_m_gap.2.1 18 = .ok (.imul, 1) := by decide +kernel
theorem d_m_gap_19 : decode M_m_gap.2.1 19 = .ok (.iload 5, 2) := by decide +kernel
theorem d_m_gap_21 : decode M_m_gap.2.1 21 = .ok (.iadd, 1) := by decide +kernel
theorem d_m_gap_22 : decode M_m_gap.2.1 22 = .ok (.iaload, 1) := by decide +kernel
theorem d_m_gap_23 : decode M_m_gap.2.1 23 = .ok (.aload_n 0, 1) := by decide +kernel
theorem d_m_gap_24 : decode M_m_gap.2.1 24 = .ok (.getfield 56, 3) := by decide +kernel
theorem d_m_gap_27 : decode M_m_gap.2.1 27 = .ok (.iconst 4, 1) := by decide +kernel
theorem d_m_gap_28 : decode M_m_gap.2.1 28 = .ok (.iload_n 2, 1) := by decide +kernel
theorem d_m_gap_29 : decode M_m_gap.2.1 29 = .ok (.imul, 1) := by decide +kernel
theorem d_m_gap_30 : decode M_m_gap.2.1 30 = .ok (.iload 5, 2) := by decide +kernel
theorem d_m_gap_32 : decode M_m_gap.2.1 32 = .ok (.iadd, 1) := by decide +kernel
theorem d_m_gap_33 : decode M_m_gap.2.1 33 = .ok (.iaload, 1) := by decide +kernel
theorem d_m_gap_34 : decode M_m_gap.2.1 34 = .ok (.isub, 1) := by decide +kernel
theorem d_m_gap_35 : decode M_m_gap.2.1 35 = .ok (.istore 6, 2) := by decide +kernel
theorem d_m_gap_37 : decode M_m_gap.2.1 37 = .ok (.iload 4, 2) := by decide +kernel
theorem d_m_gap_39 : decode M_m_gap.2.1 39 = .ok (.iload 6, 2) := by decide +kernel
theorem d_m_gap_41 : decode M_m_gap.2.1 41 = .ok (.iload 6, 2) := by decide +kernel
theorem d_m_gap_43 : decode M_m_gap.2.1 43 = .ok (.imul, 1) := by decide +kernel
theorem d_m_gap_44 : decode M_m_gap.2.1 44 = .ok (.iadd, 1) := by decide +kernel
theorem d_m_gap_45 : decode M_m_gap.2.1 45 = .ok (.istore 4, 2) := by decide +kernel
theorem d_m_gap_47 : decode M_m_gap.2.1 47 = .ok (.iinc 5 1, 3) := by decide +kernel
theorem d_m_gap_50 : decode M_m_gap.2.1 50 = .ok (.goto (-44), 3) := by decide +kernel
theorem d_m_gap_53 : decode M_m_gap.2.1 53 = .ok (.iload 4, 2) := by decide +kernel
theorem d_m_gap_55 : decode M_m_gap.2.1 55 = .ok (.ireturn, 1) := by decide +kernel
theorem d_m_mean_0 : decode M_m_mean.2.1 0 = .ok (.iconst 0, 1) := by decide +kernel
theorem d_m_mean_1 : decode M_m_mean.2.1 1 = .ok (.istore_n 3, 1) := by decide +kernel
theorem d_m_mean_2 : decode M_m_mean.2.1 2 = .ok (.iconst 0, 1) := by decide +kernel
theorem d_m_mean_3 : decode M_m_mean.2.1 3 = .ok (.istore 4, 2) := by decide +kernel
theorem d_m_mean_5 : decode M_m_mean.2.1 5 = .ok (.iload 4, 2) := by decide +kernel
theorem d_m_mean_7 : decode M_m_mean.2.1 7 = .ok (.aload_n 0, 1) := by decide +kernel
theorem d_m_mean_8 : decode M_m_mean.2.1 8 = .ok (.getfield 103, 3) := by decide +kernel
theorem d_m_mean_11 : decode M_m_mean.2.1 11 = .ok (.if_icmp .ge 28, 3) := by decide +kernel
theorem d_m_mean_14 : decode M_m_mean.2.1 14 = .ok (.iload_n 3, 1) := by decide +kernel
theorem d_m_mean_15 : decode M_m_mean.2.1 15 = .ok (.aload_n 0, 1) := by decide +kernel
theorem d_m_mean_16 : decode M_m_mean.2.1 16 = .ok (.getfield 59, 3) := by decide +kernel
theorem d_m_mean_19 : decode M_m_mean.2.1 19 = .ok (.iload 4, 2) := by decide +kernel
theorem d_m_mean_21 : decode M_m_mean.2.1 21 = .ok (.iaload, 1) := by decide +kernel
theorem d_m_mean_22 : decode M_m_mean.2.1 22 = .ok (.iload_n 1, 1) := by decide +kernel
theorem d_m_mean_23 : decode M_m_mean.2.1 23 = .ok (.if_icmp .ne 7, 3) := by decide +kernel
theorem d_m_mean_26 : decode M_m_mean.2.1 26 = .ok (.iconst 1, 1) := by decide +kernel
theorem d_m_mean_27 : decode M_m_mean.2.1 27 = .ok (.goto 4, 3) := by decide +kernel
theorem d_m_mean_30 : decode M_m_mean.2.1 30 = .ok (.iconst 0, 1) := by decide +kernel
theorem d_m_mean_31 : decode M_m_mean.2.1 31 = .ok (.iadd, 1) := by decide +kernel
theorem d_m_mean_32 : decode M_m_mean.2.1 32 = .ok (.istore_n 3, 1) := by decide +kernel
theorem d_m_mean_33 : decode M_m_mean.2.1 33 = .ok (.iinc 4 1, 3) := by decide +kernel
theorem d_m_mean_36 : decode M_m_mean.2.1 36 = .ok (.goto (-31), 3) := by decide +kernel
theorem d_m_mean_39 : decode M_m_mean.2.1 39 = .ok (.aload_n 0, 1) := by decide +kernel
theorem d_m_mean_40 : decode M_m_mean.2.1 40 = .ok (.getfield 62, 3) := by decide +kernel
theorem d_m_mean_43 : decode M_m_mean.2.1 43 = .ok (.iload_n 1, 1) := by decide +kernel
theorem d_m_mean_44 : decode M_m_mean.2.1 44 = .ok (.iload_n 3, 1) := by decide +kernel
theorem d_m_mean_45 : decode M_m_mean.2.1 45 = .ok (.iastore, 1) := by decide +kernel
theorem d_m_mean_46 : decode M_m_mean.2.1 46 = .ok (.iconst 0, 1) := by decide +kernel
theorem d_m_mean_47 : decode M_m_mean.2.1 47 = .ok (.istore 4, 2) := by decide +kernel
theorem d_m_mean_49 : decode M_m_mean.2.1 49 = .ok (.iload 4, 2) := by decide +kernel
theorem d_m_mean_51 : decode M_m_mean.2.1 51 = .ok (.iload_n 2, 1) := by decide +kernel
theorem d_m_mean_52 : decode M_m_mean.2.1 52 = .ok (.if_icmp .ge 83, 3) := by decide +kernel
theorem d_m_mean_55 : decode M_m_mean.2.1 55 = .ok (.iload_n 3, 1) := by decide +kernel
theorem d_m_mean_56 : decode M_m_mean.2.1 56 = .ok (.ifCond .le 79, 3) := by decide +kernel
theorem d_m_mean_59 : decode M_m_mean.2.1 59 = .ok (.iconst 0, 1) := by decide +kernel
theorem d_m_mean_60 : decode M_m_mean.2.1 60 = .ok (.istore 5, 2) := by decide +kernel
theorem d_m_mean_62 : decode M_m_mean.2.1 62 = .ok (.iconst 0, 1) := by decide +kernel
theorem d_m_mean_63 : decode M_m_mean.2.1 63 = .ok (.istore 6, 2) := by decide +kernel
theorem d_m_mean_65 : decode M_m_mean.2.1 65 = .ok (.iload 6, 2) := by decide +kernel
theorem d_m_mean_67 : decode M_m_mean.2.1 67 = .ok (.aload_n 0, 1) := by decide +kernel
theorem d_m_mean_68 : decode M_m_mean.2.1 68 = .ok (.getfield 103, 3) := by decide +kernel
theorem d_m_mean_71 : decode M_m_mean.2.1 71 = .ok (.if_icmp .ge 41, 3) := by decide +kernel
theorem d_m_mean_74 : decode M_m_mean.2.1 74 = .ok (.iload 5, 2) := by decide +kernel
theorem d_m_mean_76 : decode M_m_mean.2.1 76 = .ok (.aload_n 0, 1) := by decide +kernel
theorem d_m_mean_77 : decode M_m_mean.2.1 77 = .ok (.getfield 59, 3) := by decide +kernel
theorem d_m_mean_80 : decode M_m_mean.2.1 80 = .ok (.iload 6, 2) := by decide +kernel
theorem d_m_mean_82 : decode M_m_mean.2.1 82 = .ok (.iaload, 1) := by decide +kernel
theorem d_m_mean_83 : decode M_m_mean.2.1 83 = .ok (.iload_n 1, 1) := by decide +kernel
theorem d_m_mean_84 : decode M_m_mean.2.1 84 = .ok (.if_icmp .ne 18, 3) := by decide +kernel
theorem d_m_mean_87 : decode M_m_mean.2.1 87 = .ok (.aload_n 0, 1) := by decide +kernel
theorem d_m_mean_88 : decode M_m_mean.2.1 88 = .ok (.getfield 50, 3) := by decide +kernel
theorem d_m_mean_91 : decode M_m_mean.2.1 91 = .ok (.iconst 4, 1) := by decide +kernel
theorem d_m_mean_92 : decode M_m_mean.2.1 92 = .ok (.iload 6, 2) := by decide +kernel
theorem d_m_mean_94 : decode M_m_mean.2.1 94 = .ok (.imul, 1) := by decide +kernel
theorem d_m_mean_95 : decode M_m_mean.2.1 95 = .ok (.iload 4, 2) := by decide +kernel
theorem d_m_mean_97 : decode M_m_mean.2.1 97 = .ok (.iadd, 1) := by decide +kernel
theorem d_m_mean_98 : decode M_m_mean.2.1 98 = .ok (.iaload, 1) := by decide +kernel
theorem d_m_mean_99 : decode M_m_mean.2.1 99 = .ok (.goto 4, 3) := by decide +kernel
theorem d_m_mean_102 : decode M_m_mean.2.1 102 = .ok (.iconst 0, 1) := by decide +kernel
theorem d_m_mean_103 : decode M_m_mean.2.1 103 = .ok (.iadd, 1) := by decide +kernel
theorem d_m_mean_104 : decode M_m_mean.2.1 104 = .ok (.istore 5, 2) := by decide +kernel
theorem d_m_mean_106 : decode M_m_mean.2.1 106 = .ok (.iinc 6 1, 3) := by decide +kernel
theorem d_m_mean_109 : decode M_m_mean.2.1 109 = .ok (.goto (-44), 3) := by decide +kernel
theorem d_m_mean_112 : decode M_m_mean.2.1 112 = .ok (.aload_n 0, 1) := by decide +kernel
theorem d_m_mean_113 : decode M_m_mean.2.1 113 = .ok (.getfield 56, 3) := by decide +kernel
theorem d_m_mean_116 : decode M_m_mean.2.1 116 = .ok (.iconst 4, 1) := by decide +kernel
theorem d_m_mean_117 : decode M_m_mean.2.1 117 = .ok (.iload_n 1, 1) := by decide +kernel
theorem d_m_mean_118 : decode M_m_mean.2.1 118 = .ok (.imul, 1) := by decide +kernel
theorem d_m_mean_119 : decode M_m_mean.2.1 119 = .ok (.iload 4, 2) := by decide +kernel
theorem d_m_mean_121 : decode M_m_mean.2.1 121 = .ok (.iadd, 1) := by decide +kernel
theorem d_m_mean_122 : decode M_m_mean.2.1 122 = .ok (.iload 5, 2) := by decide +kernel
theorem d_m_mean_124 : decode M_m_mean.2.1 124 = .ok (.iload_n 3, 1) := by decide +kernel
theorem d_m_mean_125 : decode M_m_mean.2.1 125 = .ok (.invokestatic 120, 3) := by decide +kernel
theorem d_m_mean_128 : decode M_m_mean.2.1 128 = .ok (.iastore, 1) := by decide +kernel
theorem d_m_mean_129 : decode M_m_mean.2.1 129 = .ok (.iinc 4 1, 3) := by decide +kernel
theorem d_m_mean_132 : decode M_m_mean.2.1 132 = .ok (.goto (-83), 3) := by decide +kernel
theorem d_m_mean_135 : decode M_m_mean.2.1 135 = .ok (.return_, 1) := by decide +kernel
theorem d_m_floor_0 : decode M_m_floor.2.1 0 = .ok (.iload_n 0, 1) := by decide +kernel
theorem d_m_floor_1 : decode M_m_floor.2.1 1 = .ok (.iload_n 1, 1) := by decide +kernel
theorem d_m_floor_2 : decode M_m_floor.2.1 2 = .ok (.idiv, 1) := by decide +kernel
theorem d_m_floor_3 : decode M_m_floor.2.1 3 = .ok (.istore_n 2, 1) := by decide +kernel
theorem d_m_floor_4 : decode M_m_floor.2.1 4 = .ok (.iload_n 0, 1) := by decide +kernel
theorem d_m_floor_5 : decode M_m_floor.2.1 5 = .ok (.ifCond .ge 16, 3) := by decide +kernel
theorem d_m_floor_8 : decode M_m_floor.2.1 8 = .ok (.iload_n 2, 1) := by decide +kernel
theorem d_m_floor_9 : decode M_m_floor.2.1 9 = .ok (.iload_n 1, 1) := by decide +kernel
theorem d_m_floor_10 : decode M_m_floor.2.1 10 = .ok (.imul, 1) := by decide +kernel
theorem d_m_floor_11 : decode M_m_floor.2.1 11 = .ok (.iload_n 0, 1) := by decide +kernel
theorem d_m_floor_12 : decode M_m_floor.2.1 12 = .ok (.if_icmp .eq 9, 3) := by decide +kernel
theorem d_m_floor_15 : decode M_m_floor.2.1 15 = .ok (.iload_n 2, 1) := by decide +kernel
theorem d_m_floor_16 : decode M_m_floor.2.1 16 = .ok (.iconst 1, 1) := by decide +kernel
theorem d_m_floor_17 : decode M_m_floor.2.1 17 = .ok (.isub, 1) := by decide +kernel
theorem d_m_floor_18 : decode M_m_floor.2.1 18 = .ok (.goto 4, 3) := by decide +kernel
theorem d_m_floor_21 : decode M_m_floor.2.1 21 = .ok (.iload_n 2, 1) := by decide +kernel
theorem d_m_floor_22 : decode M_m_floor.2.1 22 = .ok (.ireturn, 1) := by decide +kernel
theorem d_m_fill_0 : decode M_m_fill.2.1 0 = .ok (.iconst 0, 1) := by decide +kernel
theorem d_m_fill_1 : decode M_m_fill.2.1 1 = .ok (.istore_n 3, 1) := by decide +kernel
theorem d_m_fill_2 : decode M_m_fill.2.1 2 = .ok (.iload_n 3, 1) := by decide +kernel
theorem d_m_fill_3 : decode M_m_fill.2.1 3 = .ok (.iload_n 1, 1) := by decide +kernel
theorem d_m_fill_4 : decode M_m_fill.2.1 4 = .ok (.if_icmp .ge 141, 3) := by decide +kernel
theorem d_m_fill_7 : decode M_m_fill.2.1 7 = .ok (.aload_n 0, 1) := by decide +kernel
theorem d_m_fill_8 : decode M_m_fill.2.1 8 = .ok (.iload_n 3, 1) := by decide +kernel
theorem d_m_fill_9 : decode M_m_fill.2.1 9 = .ok (.invokevirtual 124, 3) := by decide +kernel
theorem d_m_fill_12 : decode M_m_fill.2.1 12 = .ok (.ifCond .ne 127, 3) := by decide +kernel
theorem d_m_fill_15 : decode M_m_fill.2.1 15 = .ok (.iconst 0, 1) := by decide +kernel
theorem d_m_fill_16 : decode M_m_fill.2.1 16 = .ok (.istore 4, 2) := by decide +kernel
theorem d_m_fill_18 : decode M_m_fill.2.1 18 = .ok (.iconst 1, 1) := by decide +kernel
theorem d_m_fill_19 : decode M_m_fill.2.1 19 = .ok (.istore 5, 2) := by decide +kernel
theorem d_m_fill_21 : decode M_m_fill.2.1 21 = .ok (.iload 5, 2) := by decide +kernel
theorem d_m_fill_23 : decode M_m_fill.2.1 23 = .ok (.iload_n 1, 1) := by decide +kernel
theorem d_m_fill_24 : decode M_m_fill.2.1 24 = .ok (.if_icmp .ge 35, 3) := by decide +kernel
theorem d_m_fill_27 : decode M_m_fill.2.1 27 = .ok (.aload_n 0, 1) := by decide +kernel
theorem d_m_fill_28 : decode M_m_fill.2.1 28 = .ok (.getfield 62, 3) := by decide +kernel
theorem d_m_fill_31 : decode M_m_fill.2.1 31 = .ok (.iload 5, 2) := by decide +kernel
theorem d_m_fill_33 : decode M_m_fill.2.1 33 = .ok (.iaload, 1) := by decide +kernel
theorem d_m_fill_34 : decode M_m_fill.2.1 34 = .ok (.aload_n 0, 1) := by decide +kernel
theorem d_m_fill_35 : decode M_m_fill.2.1 35 = .ok (.getfield 62, 3) := by decide +kernel
theorem d_m_fill_38 : decode M_m_fill.2.1 38 = .ok (.iload 4, 2) := by decide +kernel
theorem d_m_fill_40 : decode M_m_fill.2.1 40 = .ok (.iaload, 1) := by decide +kernel
theorem d_m_fill_41 : decode M_m_fill.2.1 41 = .ok (.if_icmp .le 8, 3) := by decide +kernel
theorem d_m_fill_44 : decode M_m_fill.2.1 44 = .ok (.iload 5, 2) := by decide +kernel
theorem d_m_fill_46 : decode M_m_fill.2.1 46 = .ok (.goto 5, 3) := by decide +kernel
theorem d_m_fill_49 : decode M_m_fill.2.1 49 = .ok (.iload 4, 2) := by decide +kernel
theorem d_m_fill_51 : decode M_m_fill.2.1 51 = .ok (.istore 4, 2) := by decide +kernel
theorem d_m_fill_53 : decode M_m_fill.2.1 53 = .ok (.iinc 5 1, 3) := by decide +kernel
theorem d_m_fill_56 : decode M_m_fill.2.1 56 = .ok (.goto (-35), 3) := by decide +kernel
theorem d_m_fill_59 : decode M_m_fill.2.1 59 = .ok (.iconst 0, 1) := by decide +kernel
theorem d_m_fill_60 : decode M_m_fill.2.1 60 = .ok (.istore 5, 2) := by decide +kernel
theorem d_m_fill_62 : decode M_m_fill.2.1 62 = .ok (.iload 5, 2) := by decide +kernel
theorem d_m_fill_64 : decode M_m_fill.2.1 64 = .ok (.iload_n 2, 1) := by decide +kernel
theorem d_m_fill_65 : decode M_m_fill.2.1 65 = .ok (.if_icmp .ge 43, 3) := by decide +kernel
theorem d_m_fill_68 : decode M_m_fill.2.1 68 = .ok (.aload_n 0, 1) := by decide +kernel
theorem d_m_fill_69 : decode M_m_fill.2.1 69 = .ok (.getfield 56, 3) := by decide +kernel
theorem d_m_fill_72 : decode M_m_fill.2.1 72 = .ok (.iconst 4, 1) := by decide +kernel
theorem d_m_fill_73 : decode M_m_fill.2.1 73 = .ok (.iload_n 3, 1) := by decide +kernel
theorem d_m_fill_74 : decode M_m_fill.2.1 74 = .ok (.imul, 1) := by decide +kernel
theorem d_m_fill_75 : decode M_m_fill.2.1 75 = .ok (.iload 5, 2) := by decide +kernel
theorem d_m_fill_77 : decode M_m_fill.2.1 77 = .ok (.iadd, 1) := by decide +kernel
theorem d_m_fill_78 : decode M_m_fill.2.1 78 = .ok (.aload_n 0, 1) := by decide +kernel
theorem d_m_fill_79 : decode M_m_fill.2.1 79 = .ok (.getfield 56, 3) := by decide +kernel
theorem d_m_fill_82 : decode M_m_fill.2.1 82 = .ok (.iconst 4, 1) := by decide +kernel
theorem d_m_fill_83 : decode M_m_fill.2.1 83 = .ok (.iload 4, 2) := by decide +kernel
theorem d_m_fill_85 : decode M_m_fill.2.1 85 = .ok (.imul, 1) := by decide +kernel
theorem d_m_fill_86 : decode M_m_fill.2.1 86 = .ok (.iload 5, 2) := by decide +kernel
theorem d_m_fill_88 : decode M_m_fill.2.1 88 = .ok (.iadd, 1) := by decide +kernel
theorem d_m_fill_89 : decode M_m_fill.2.1 89 = .ok (.iaload, 1) := by decide +kernel
theorem d_m_fill_90 : decode M_m_fill.2.1 90 = .ok (.iload 5, 2) := by decide +kernel
theorem d_m_fill_92 : decode M_m_fill.2.1 92 = .ok (.ifCond .ne 7, 3) := by decide +kernel
theorem d_m_fill_95 : decode M_m_fill.2.1 95 = .ok (.iconst 1, 1) := by decide +kernel
theorem d_m_fill_96 : decode M_m_fill.2.1 96 = .ok (.goto 4, 3) := by decide +kernel
theorem d_m_fill_99 : decode M_m_fill.2.1 99 = .ok (.iconst 0, 1) := by decide +kernel
theorem d_m_fill_100 : decode M_m_fill.2.1 100 = .ok (.iadd, 1) := by decide +kernel
theorem d_m_fill_101 : decode M_m_fill.2.1 101 = .ok (.iastore, 1) := by decide +kernel
theorem d_m_fill_102 : decode M_m_fill.2.1 102 = .ok (.iinc 5 1, 3) := by decide +kernel
theorem d_m_fill_105 : decode M_m_fill.2.1 105 = .ok (.goto (-43), 3) := by decide +kernel
theorem d_m_fill_108 : decode M_m_fill.2.1 108 = .ok (.aload_n 0, 1) := by decide +kernel
theorem d_m_fill_109 : decode M_m_fill.2.1 109 = .ok (.getfield 62, 3) := by decide +kernel
theorem d_m_fill_112 : decode M_m_fill.2.1 112 = .ok (.iload 4, 2) := by decide +kernel
theorem d_m_fill_114 : decode M_m_fill.2.1 114 = .ok (.iaload, 1) := by decide +kernel
theorem d_m_fill_115 : decode M_m_fill.2.1 115 = .ok (.iconst 2, 1) := by decide +kernel
theorem d_m_fill_116 : decode M_m_fill.2.1 116 = .ok (.idiv, 1) := by decide +kernel
theorem d_m_fill_117 : decode M_m_fill.2.1 117 = .ok (.istore 5, 2) := by decide +kernel
theorem d_m_fill_119 : decode M_m_fill.2.1 119 = .ok (.aload_n 0, 1) := by decide +kernel
theorem d_m_fill_120 : decode M_m_fill.2.1 120 = .ok (.getfield 62, 3) := by decide +kernel
theorem d_m_fill_123 : decode M_m_fill.2.1 123 = .ok (.iload 4, 2) := by decide +kernel
theorem d_m_fill_125 : decode M_m_fill.2.1 125 = .ok (.dup2, 1) := by decide +kernel
theorem d_m_fill_126 : decode M_m_fill.2.1 126 = .ok (.iaload, 1) := by decide +kernel
theorem d_m_fill_127 : decode M_m_fill.2.1 127 = .ok (.iload 5, 2) := by decide +kernel
theorem d_m_fill_129 : decode M_m_fill.2.1 129 = .ok (.isub, 1) := by decide +kernel
theorem d_m_fill_130 : decode M_m_fill.2.1 130 = .ok (.iastore, 1) := by decide +kernel
theorem d_m_fill_131 : decode M_m_fill.2.1 131 = .ok (.aload_n 0, 1) := by decide +kernel
theorem d_m_fill_132 : decode M_m_fill.2.1 132 = .ok (.getfield 62, 3) := by decide +kernel
theorem d_m_fill_135 : decode M_m_fill.2.1 135 = .ok (.iload_n 3, 1) := by decide +kernel
theorem d_m_fill_136 : decode M_m_fill.2.1 136 = .ok (.iload 5, 2) := by decide +kernel
theorem d_m_fill_138 : decode M_m_fill.2.1 138 = .ok (.iastore, 1) := by decide +kernel
theorem d_m_fill_139 : decode M_m_fill.2.1 139 = .ok (.iinc 3 1, 3) := by decide +kernel
theorem d_m_fill_142 : decode M_m_fill.2.1 142 = .ok (.goto (-140), 3) := by decide +kernel
theorem d_m_fill_145 : decode M_m_fill.2.1 145 = .ok (.return_, 1) := by decide +kernel
theorem d_m_hasMember_0 : decode M_m_hasMember.2.1 0 = .ok (.iconst 0, 1) := by decide +kernel
theorem d_m_hasMember_1 : decode M_m_hasMember.2.1 1 = .ok (.istore_n 2, 1) := by decide +kernel
theorem d_m_hasMember_2 : decode M_m_hasMember.2.1 2 = .ok (.iload_n 2, 1) := by decide +kernel
theorem d_m_hasMember_3 : decode M_m_hasMember.2.1 3 = .ok (.aload_n 0, 1) := by decide +kernel
theorem d_m_hasMember_4 : decode M_m_hasMember.2.1 4 = .ok (.getfield 103, 3) := by decide +kernel
theorem d_m_hasMember_7 : decode M_m_hasMember.2.1 7 = .ok (.if_icmp .ge 21, 3) := by decide +kernel
theorem d_m_hasMember_10 : decode M_m_hasMember.2.1 10 = .ok (.aload_n 0, 1) := by decide +kernel
theorem d_m_hasMember_11 : decode M_m_hasMember.2.1 11 = .ok (.getfield 59, 3) := by decide +kernel
theorem d_m_hasMember_14 : decode M_m_hasMember.2.1 14 = .ok (.iload_n 2, 1) := by decide +kernel
theorem d_m_hasMember_15 : decode M_m_hasMember.2.1 15 = .ok (.iaload, 1) := by decide +kernel
theorem d_m_hasMember_16 : decode M_m_hasMember.2.1 16 = .ok (.iload_n 1, 1) := by decide +kernel
theorem d_m_hasMember_17 : decode M_m_hasMember.2.1 17 = .ok (.if_icmp .ne 5, 3) := by decide +kernel
theorem d_m_hasMember_20 : decode M_m_hasMember.2.1 20 = .ok (.iconst 1, 1) := by decide +kernel
theorem d_m_hasMember_21 : decode M_m_hasMember.2.1 21 = .ok (.ireturn, 1) := by decide +kernel
theorem d_m_hasMember_22 : decode M_m_hasMember.2.1 22 = .ok (.iinc 2 1, 3) := by decide +kernel
theorem d_m_hasMember_25 : decode M_m_hasMember.2.1 25 = .ok (.goto (-23), 3) := by decide +kernel
theorem d_m_hasMember_28 : decode M_m_hasMember.2.1 28 = .ok (.iconst 0, 1) := by decide +kernel
theorem d_m_hasMember_29 : decode M_m_hasMember.2.1 29 = .ok (.ireturn, 1) := by decide +kernel
theorem d_m_parts_0 : decode M_m_parts.2.1 0 = .ok (.aload_n 0, 1) := by decide +kernel
theorem d_m_parts_1 : decode M_m_parts.2.1 1 = .ok (.getfield 128, 3) := by decide +kernel
theorem d_m_parts_4 : decode M_m_parts.2.1 4 = .ok (.ifCond .ne 7, 3) := by decide +kernel
theorem d_m_parts_7 : decode M_m_parts.2.1 7 = .ok (.iconst 2, 1) := by decide +kernel
theorem d_m_parts_8 : decode M_m_parts.2.1 8 = .ok (.goto 16, 3) := by decide +kernel
theorem d_m_parts_11 : decode M_m_parts.2.1 11 = .ok (.aload_n 0, 1) := by decide +kernel
theorem d_m_parts_12 : decode M_m_parts.2.1 12 = .ok (.getfield 128, 3) := by decide +kernel
theorem d_m_parts_15 : decode M_m_parts.2.1 15 = .ok (.iconst 1, 1) := by decide +kernel
theorem d_m_parts_16 : decode M_m_parts.2.1 16 = .ok (.if_icmp .ne 7, 3) := by decide +kernel
theorem d_m_parts_19 : decode M_m_parts.2.1 19 = .ok (.iconst 4, 1) := by decide +kernel
theorem d_m_parts_20 : decode M_m_parts.2.1 20 = .ok (.goto 4, 3) := by decide +kernel
theorem d_m_parts_23 : decode M_m_parts.2.1 23 = .ok (.iconst 0, 1) := by decide +kernel
theorem d_m_parts_24 : decode M_m_parts.2.1 24 = .ok (.ireturn, 1) := by decide +kernel
theorem d_m_learn_0 : decode M_m_learn.2.1 0 = .ok (.iconst 0, 1) := by decide +kernel
theorem d_m_learn_1 : decode M_m_learn.2.1 1 = .ok (.istore_n 3, 1) := by decide +kernel
theorem d_m_learn_2 : decode M_m_learn.2.1 2 = .ok (.iload_n 3, 1) := by decide +kernel
theorem d_m_learn_3 : decode M_m_learn.2.1 3 = .ok (.aload_n 0, 1) := by decide +kernel
theorem d_m_learn_4 : decode M_m_learn.2.1 4 = .ok (.getfield 103, 3) := by decide +kernel
theorem d_m_learn_7 : decode M_m_learn.2.1 7 = .ok (.if_icmp .ge 53, 3) := by decide +kernel
theorem d_m_learn_10 : decode M_m_learn.2.1 10 = .ok (.aload_n 0, 1) := by decide +kernel
theorem d_m_learn_11 : decode M_m_learn.2.1 11 = .ok (.getfield 50, 3) := by decide +kernel
theorem d_m_learn_14 : decode M_m_learn.2.1 14 = .ok (.iconst 4, 1) := by decide +kernel
theorem d_m_learn_15 : decode M_m_learn.2.1 15 = .ok (.iload_n 3, 1) := by decide +kernel
theorem d_m_learn_16 : decode M_m_learn.2.1 16 = .ok (.imul, 1) := by decide +kernel
theorem d_m_learn_17 : decode M_m_learn.2.1 17 = .ok (.aload_n 0, 1) := by decide +kernel
theorem d_m_learn_18 : decode M_m_learn.2.1 18 = .ok (.getfield 53, 3) := by decide +kernel
theorem d_m_learn_21 : decode M_m_learn.2.1 21 = .ok (.iconst 4, 1) := by decide +kernel
theorem d_m_learn_22 : decode M_m_learn.2.1 22 = .ok (.iload_n 3, 1) := by decide +kernel
theorem d_m_learn_23 : decode M_m_learn.2.1 23 = .ok (.imul, 1) := by decide +kernel
theorem d_m_learn_24 : decode M_m_learn.2.1 24 = .ok (.iconst 2, 1) := by decide +kernel
theorem d_m_learn_25 : decode M_m_learn.2.1 25 = .ok (.iload_n 1, 1) := by decide +kernel
theorem d_m_learn_26 : decode M_m_learn.2.1 26 = .ok (.imul, 1) := by decide +kernel
theorem d_m_learn_27 : decode M_m_learn.2.1 27 = .ok (.iadd, 1) := by decide +kernel
theorem d_m_learn_28 : decode M_m_learn.2.1 28 = .ok (.iaload, 1) := by decide +kernel
theorem d_m_learn_29 : decode M_m_learn.2.1 29 = .ok (.iastore, 1) := by decide +kernel
theorem d_m_learn_30 : decode M_m_learn.2.1 30 = .ok (.aload_n 0, 1) := by decide +kernel
theorem d_m_learn_31 : decode M_m_learn.2.1 31 = .ok (.getfield 50, 3) := by decide +kernel
theorem d_m_learn_34 : decode M_m_learn.2.1 34 = .ok (.iconst 4, 1) := by decide +kernel
theorem d_m_learn_35 : decode M_m_learn.2.1 35 = .ok (.iload_n 3, 1) := by decide +kernel
theorem d_m_learn_36 : decode M_m_learn.2.1 36 = .ok (.imul, 1) := by decide +kernel
theorem d_m_learn_37 : decode M_m_learn.2.1 37 = .ok (.iconst 1, 1) := by decide +kernel
theorem d_m_learn_38 : decode M_m_learn.2.1 38 = .ok (.iadd, 1) := by decide +kernel
theorem d_m_learn_39 : decode M_m_learn.2.1 39 = .ok (.aload_n 0, 1) := by decide +kernel
theorem d_m_learn_40 : decode M_m_learn.2.1 40 = .ok (.getfield 53, 3) := by decide +kernel
theorem d_m_learn_43 : decode M_m_learn.2.1 43 = .ok (.iconst 4, 1) := by decide +kernel
theorem d_m_learn_44 : decode M_m_learn.2.1 44 = .ok (.iload_n 3, 1) := by decide +kernel
theorem d_m_learn_45 : decode M_m_learn.2.1 45 = .ok (.imul, 1) := by decide +kernel
theorem d_m_learn_46 : decode M_m_learn.2.1 46 = .ok (.iconst 2, 1) := by decide +kernel
theorem d_m_learn_47 : decode M_m_learn.2.1 47 = .ok (.iload_n 1, 1) := by decide +kernel
theorem d_m_learn_48 : decode M_m_learn.2.1 48 = .ok (.imul, 1) := by decide +kernel
theorem d_m_learn_49 : decode M_m_learn.2.1 49 = .ok (.iadd, 1) := by decide +kernel
theorem d_m_learn_50 : decode M_m_learn.2.1 50 = .ok (.iconst 1, 1) := by decide +kernel
theorem d_m_learn_51 : decode M_m_learn.2.1 51 = .ok (.iadd, 1) := by decide +kernel
theorem d_m_learn_52 : decode M_m_learn.2.1 52 = .ok (.iaload, 1) := by decide +kernel
theorem d_m_learn_53 : decode M_m_learn.2.1 53 = .ok (.iastore, 1) := by decide +kernel
theorem d_m_learn_54 : decode M_m_learn.2.1 54 = .ok (.iinc 3 1, 3) := by decide +kernel
theorem d_m_learn_57 : decode M_m_learn.2.1 57 = .ok (.goto (-55), 3) := by decide +kernel
theorem d_m_learn_60 : decode M_m_learn.2.1 60 = .ok (.aload_n 0, 1) := by decide +kernel
theorem d_m_learn_61 : decode M_m_learn.2.1 61 = .ok (.aload_n 0, 1) := by decide +kernel
theorem d_m_learn_62 : decode M_m_learn.2.1 62 = .ok (.getfield 137, 3) := by decide +kernel
theorem d_m_learn_65 : decode M_m_learn.2.1 65 = .ok (.iconst 2, 1) := by decide +kernel
theorem d_m_learn_66 : decode M_m_learn.2.1 66 = .ok (.iload_n 2, 1) := by decide +kernel
theorem d_m_learn_67 : decode M_m_learn.2.1 67 = .ok (.invokevirtual 140, 3) := by decide +kernel
theorem d_m_learn_70 : decode M_m_learn.2.1 70 = .ok (.iconst 0, 1) := by decide +kernel
theorem d_m_learn_71 : decode M_m_learn.2.1 71 = .ok (.istore_n 3, 1) := by decide +kernel
theorem d_m_learn_72 : decode M_m_learn.2.1 72 = .ok (.iload_n 3, 1) := by decide +kernel
theorem d_m_learn_73 : decode M_m_learn.2.1 73 = .ok (.aload_n 0, 1) := by decide +kernel
theorem d_m_learn_74 : decode M_m_learn.2.1 74 = .ok (.getfield 137, 3) := by decide +kernel
theorem d_m_learn_77 : decode M_m_learn.2.1 77 = .ok (.if_icmp .ge 55, 3) := by decide +kernel
theorem d_m_learn_80 : decode M_m_learn.2.1 80 = .ok (.aload_n 0, 1) := by decide +kernel
theorem d_m_learn_81 : decode M_m_learn.2.1 81 = .ok (.getfield 19, 3) := by decide +kernel
theorem d_m_learn_84 : decode M_m_learn.2.1 84 = .ok (.bipush 8, 2) := by decide +kernel
theorem d_m_learn_86 : decode M_m_learn.2.1 86 = .ok (.iload_n 1, 1) := by decide +kernel
theorem d_m_learn_87 : decode M_m_learn.2.1 87 = .ok (.imul, 1) := by decide +kernel
theorem d_m_learn_88 : decode M_m_learn.2.1 88 = .ok (.iconst 2, 1) := by decide +kernel
theorem d_m_learn_89 : decode M_m_learn.2.1 89 = .ok (.iload_n 3, 1) := by decide +kernel
theorem d_m_learn_90 : decode M_m_learn.2.1 90 = .ok (.imul, 1) := by decide +kernel
theorem d_m_learn_91 : decode M_m_learn.2.1 91 = .ok (.iadd, 1) := by decide +kernel
theorem d_m_learn_92 : decode M_m_learn.2.1 92 = .ok (.aload_n 0, 1) := by decide +kernel
theorem d_m_learn_93 : decode M_m_learn.2.1 93 = .ok (.getfield 56, 3) := by decide +kernel
theorem d_m_learn_96 : decode M_m_learn.2.1 96 = .ok (.iconst 4, 1) := by decide +kernel
theorem d_m_learn_97 : decode M_m_learn.2.1 97 = .ok (.iload_n 3, 1) := by decide +kernel
theorem d_m_learn_98 : decode M_m_learn.2.1 98 = .ok (.imul, 1) := by decide +kernel
theorem d_m_learn_99 : decode M_m_learn.2.1 99 = .ok (.iaload, 1) := by decide +kernel
theorem d_m_learn_100 : decode M_m_learn.2.1 100 = .ok (.iastore, 1) := by decide +kernel
theorem d_m_learn_101 : decode M_m_learn.2.1 101 = .ok (.aload_n 0, 1) := by decide +kernel
theorem d_m_learn_102 : decode M_m_learn.2.1 102 = .ok (.getfield 19, 3) := by decide +kernel
theorem d_m_learn_105 : decode M_m_learn.2.1 105 = .ok (.bipush 8, 2) := by decide +kernel
theorem d_m_learn_107 : decode M_m_learn.2.1 107 = .ok (.iload_n 1, 1) := by decide +kernel
theorem d_m_learn_108 : decode M_m_learn.2.1 108 = .ok (.imul, 1) := by decide +kernel
theorem d_m_learn_109 : decode M_m_learn.2.1 109 = .ok (.iconst 2, 1) := by decide +kernel
theorem d_m_learn_110 : decode M_m_learn.2.1 110 = .ok (.iload_n 3, 1) := by decide +kernel
theorem d_m_learn_111 : decode M_m_learn.2.1 111 = .ok (.imul, 1) := by decide +kernel
theorem d_m_learn_112 : decode M_m_learn.2.1 112 = .ok (.iadd, 1) := by decide +kernel
theorem d_m_learn_113 : decode M_m_learn.2.1 113 = .ok (.iconst 1, 1) := by decide +kernel
theorem d_m_learn_114 : decode M_m_learn.2.1 114 = .ok (.iadd, 1) := by decide +kernel
theorem d_m_learn_115 : decode M_m_learn.2.1 115 = .ok (.aload_n 0, 1) := by decide +kernel
theorem d_m_learn_116 : decode M_m_learn.2.1 116 = .ok (.getfield 56, 3) := by decide +kernel
theorem d_m_learn_119 : decode M_m_learn.2.1 119 = .ok (.iconst 4, 1) := by decide +kernel
theorem d_m_learn_120 : decode M_m_learn.2.1 120 = .ok (.iload_n 3, 1) := by decide +kernel
theorem d_m_learn_121 : decode M_m_learn.2.1 121 = .ok (.imul, 1) := by decide +kernel
theorem d_m_learn_122 : decode M_m_learn.2.1 122 = .ok (.iconst 1, 1) := by decide +kernel
theorem d_m_learn_123 : decode M_m_learn.2.1 123 = .ok (.iadd, 1) := by decide +kernel
theorem d_m_learn_124 : decode M_m_learn.2.1 124 = .ok (.iaload, 1) := by decide +kernel
theorem d_m_learn_125 : decode M_m_learn.2.1 125 = .ok (.iastore, 1) := by decide +kernel
theorem d_m_learn_126 : decode M_m_learn.2.1 126 = .ok (.iinc 3 1, 3) := by decide +kernel
theorem d_m_learn_129 : decode M_m_learn.2.1 129 = .ok (.goto (-57), 3) := by decide +kernel
theorem d_m_learn_132 : decode M_m_learn.2.1 132 = .ok (.return_, 1) := by decide +kernel
theorem d_m_spread_0 : decode M_m_spread.2.1 0 = .ok (.aload_n 0, 1) := by decide +kernel
theorem d_m_spread_1 : decode M_m_spread.2.1 1 = .ok (.getfield 53, 3) := by decide +kernel
theorem d_m_spread_4 : decode M_m_spread.2.1 4 = .ok (.iload_n 1, 1) := by decide +kernel
theorem d_m_spread_5 : decode M_m_spread.2.1 5 = .ok (.iaload, 1) := by decide +kernel
theorem d_m_spread_6 : decode M_m_spread.2.1 6 = .ok (.istore_n 2, 1) := by decide +kernel
theorem d_m_spread_7 : decode M_m_spread.2.1 7 = .ok (.aload_n 0, 1) := by decide +kernel
theorem d_m_spread_8 : decode M_m_spread.2.1 8 = .ok (.getfield 53, 3) := by decide +kernel
theorem d_m_spread_11 : decode M_m_spread.2.1 11 = .ok (.iload_n 1, 1) := by decide +kernel
theorem d_m_spread_12 : decode M_m_spread.2.1 12 = .ok (.iaload, 1) := by decide +kernel
theorem d_m_spread_13 : decode M_m_spread.2.1 13 = .ok (.istore_n 3, 1) := by decide +kernel
theorem d_m_spread_14 : decode M_m_spread.2.1 14 = .ok (.iconst 1, 1) := by decide +kernel
theorem d_m_spread_15 : decode M_m_spread.2.1 15 = .ok (.istore 4, 2) := by decide +kernel
theorem d_m_spread_17 : decode M_m_spread.2.1 17 = .ok (.iload 4, 2) := by decide +kernel
theorem d_m_spread_19 : decode M_m_spread.2.1 19 = .ok (.aload_n 0, 1) := by decide +kernel
theorem d_m_spread_20 : decode M_m_spread.2.1 20 = .ok (.getfield 103, 3) := by decide +kernel
theorem d_m_spread_23 : decode M_m_spread.2.1 23 = .ok (.if_icmp .ge 48, 3) := by decide +kernel
theorem d_m_spread_26 : decode M_m_spread.2.1 26 = .ok (.aload_n 0, 1) := by decide +kernel
theorem d_m_spread_27 : decode M_m_spread.2.1 27 = .ok (.getfield 53, 3) := by decide +kernel
theorem d_m_spread_30 : decode M_m_spread.2.1 30 = .ok (.iconst 4, 1) := by decide +kernel
theorem d_m_spread_31 : decode M_m_spread.2.1 31 = .ok (.iload 4, 2) := by decide +kernel
theorem d_m_spread_33 : decode M_m_spread.2.1 33 = .ok (.imul, 1) := by decide +kernel
theorem d_m_spread_34 : decode M_m_spread.2.1 34 = .ok (.iload_n 1, 1) := by decide +kernel
theorem d_m_spread_35 : decode M_m_spread.2.1 35 = .ok (.iadd, 1) := by decide +kernel
theorem d_m_spread_36 : decode M_m_spread.2.1 36 = .ok (.iaload, 1) := by decide +kernel
theorem d_m_spread_37 : decode M_m_spread.2.1 37 = .ok (.istore 5, 2) := by decide +kernel
theorem d_m_spread_39 : decode M_m_spread.2.1 39 = .ok (.iload 5, 2) := by decide +kernel
