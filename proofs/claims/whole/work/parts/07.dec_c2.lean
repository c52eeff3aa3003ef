theorem d_q_nearestRow_43 : decode M_q_nearestRow.2.1 43 = .ok (.iload 7, 2) := by decide +kernel
theorem d_q_nearestRow_45 : decode M_q_nearestRow.2.1 45 = .ok (.if_icmp .ge 11, 3) := by decide +kernel
theorem d_q_nearestRow_48 : decode M_q_nearestRow.2.1 48 = .ok (.iload 8, 2) := by decide +kernel
theorem d_q_nearestRow_50 : decode M_q_nearestRow.2.1 50 = .ok (.istore 6, 2) := by decide +kernel
theorem d_q_nearestRow_52 : decode M_q_nearestRow.2.1 52 = .ok (.iload 9, 2) := by decide +kernel
theorem d_q_nearestRow_54 : decode M_q_nearestRow.2.1 54 = .ok (.istore 7, 2) := by decide +kernel
theorem d_q_nearestRow_56 : decode M_q_nearestRow.2.1 56 = .ok (.iinc 8 1, 3) := by decide +kernel
theorem d_q_nearestRow_59 : decode M_q_nearestRow.2.1 59 = .ok (.goto (-40), 3) := by decide +kernel
theorem d_q_nearestRow_62 : decode M_q_nearestRow.2.1 62 = .ok (.iload 6, 2) := by decide +kernel
theorem d_q_nearestRow_64 : decode M_q_nearestRow.2.1 64 = .ok (.ireturn, 1) := by decide +kernel
theorem d_q_distance_0 : decode M_q_distance.2.1 0 = .ok (.iconst 0, 1) := by decide +kernel
theorem d_q_distance_1 : decode M_q_distance.2.1 1 = .ok (.istore 4, 2) := by decide +kernel
theorem d_q_distance_3 : decode M_q_distance.2.1 3 = .ok (.iconst 0, 1) := by decide +kernel
theorem d_q_distance_4 : decode M_q_distance.2.1 4 = .ok (.istore 5, 2) := by decide +kernel
theorem d_q_distance_6 : decode M_q_distance.2.1 6 = .ok (.iload 5, 2) := by decide +kernel
theorem d_q_distance_8 : decode M_q_distance.2.1 8 = .ok (.iload_n 3, 1) := by decide +kernel
theorem d_q_distance_9 : decode M_q_distance.2.1 9 = .ok (.if_icmp .ge 32, 3) := by decide +kernel
theorem d_q_distance_12 : decode M_q_distance.2.1 12 = .ok (.aload_n 0, 1) := by decide +kernel
theorem d_q_distance_13 : decode M_q_distance.2.1 13 = .ok (.iload 5, 2) := by decide +kernel
theorem d_q_distance_15 : decode M_q_distance.2.1 15 = .ok (.iaload, 1) := by decide +kernel
theorem d_q_distance_16 : decode M_q_distance.2.1 16 = .ok (.aload_n 1, 1) := by decide +kernel
theorem d_q_distance_17 : decode M_q_distance.2.1 17 = .ok (.iload_n 2, 1) := by decide +kernel
theorem d_q_distance_18 : decode M_q_distance.2.1 18 = .ok (.iload 5, 2) := by decide +kernel
theorem d_q_distance_20 : decode M_q_distance.2.1 20 = .ok (.iadd, 1) := by decide +kernel
theorem d_q_distance_21 : decode M_q_distance.2.1 21 = .ok (.iaload, 1) := by decide +kernel
theorem d_q_distance_22 : decode M_q_distance.2.1 22 = .ok (.isub, 1) := by decide +kernel
theorem d_q_distance_23 : decode M_q_distance.2.1 23 = .ok (.istore 6, 2) := by decide +kernel
theorem d_q_distance_25 : decode M_q_distance.2.1 25 = .ok (.iload 4, 2) := by decide +kernel
theorem d_q_distance_27 : decode M_q_distance.2.1 27 = .ok (.iload 6, 2) := by decide +kernel
theorem d_q_distance_29 : decode M_q_distance.2.1 29 = .ok (.iload 6, 2) := by decide +kernel
theorem d_q_distance_31 : decode M_q_distance.2.1 31 = .ok (.imul, 1) := by decide +kernel
theorem d_q_distance_32 : decode M_q_distance.2.1 32 = .ok (.iadd, 1) := by decide +kernel
theorem d_q_distance_33 : decode M_q_distance.2.1 33 = .ok (.istore 4, 2) := by decide +kernel
theorem d_q_distance_35 : decode M_q_distance.2.1 35 = .ok (.iinc 5 1, 3) := by decide +kernel
theorem d_q_distance_38 : decode M_q_distance.2.1 38 = .ok (.goto (-32), 3) := by decide +kernel
theorem d_q_distance_41 : decode M_q_distance.2.1 41 = .ok (.iload 4, 2) := by decide +kernel
theorem d_q_distance_43 : decode M_q_distance.2.1 43 = .ok (.ireturn, 1) := by decide +kernel
theorem d_c_countMembers_0 : decode M_c_countMembers.2.1 0 = .ok (.iconst 0, 1) := by decide +kernel
theorem d_c_countMembers_1 : decode M_c_countMembers.2.1 1 = .ok (.istore_n 1, 1) := by decide +kernel
theorem d_c_countMembers_2 : decode M_c_countMembers.2.1 2 = .ok (.iload_n 1, 1) := by decide +kernel
theorem d_c_countMembers_3 : decode M_c_countMembers.2.1 3 = .ok (.aload_n 0, 1) := by decide +kernel
theorem d_c_countMembers_4 : decode M_c_countMembers.2.1 4 = .ok (.getfield 36, 3) := by decide +kernel
theorem d_c_countMembers_7 : decode M_c_countMembers.2.1 7 = .ok (.if_icmp .ge 41, 3) := by decide +kernel
theorem d_c_countMembers_10 : decode M_c_countMembers.2.1 10 = .ok (.aload_n 0, 1) := by decide +kernel
theorem d_c_countMembers_11 : decode M_c_countMembers.2.1 11 = .ok (.getfield 22, 3) := by decide +kernel
theorem d_c_countMembers_14 : decode M_c_countMembers.2.1 14 = .ok (.iload_n 1, 1) := by decide +kernel
theorem d_c_countMembers_15 : decode M_c_countMembers.2.1 15 = .ok (.iconst 0, 1) := by decide +kernel
theorem d_c_countMembers_16 : decode M_c_countMembers.2.1 16 = .ok (.iastore, 1) := by decide +kernel
theorem d_c_countMembers_17 : decode M_c_countMembers.2.1 17 = .ok (.iconst 0, 1) := by decide +kernel
theorem d_c_countMembers_18 : decode M_c_countMembers.2.1 18 = .ok (.istore_n 2, 1) := by decide +kernel
theorem d_c_countMembers_19 : decode M_c_countMembers.2.1 19 = .ok (.iload_n 2, 1) := by decide +kernel
theorem d_c_countMembers_20 : decode M_c_countMembers.2.1 20 = .ok (.aload_n 0, 1) := by decide +kernel
theorem d_c_countMembers_21 : decode M_c_countMembers.2.1 21 = .ok (.getfield 33, 3) := by decide +kernel
theorem d_c_countMembers_24 : decode M_c_countMembers.2.1 24 = .ok (.if_icmp .ge 18, 3) := by decide +kernel
theorem d_c_countMembers_27 : decode M_c_countMembers.2.1 27 = .ok (.aload_n 0, 1) := by decide +kernel
theorem d_c_countMembers_28 : decode M_c_countMembers.2.1 28 = .ok (.getfield 19, 3) := by decide +kernel
theorem d_c_countMembers_31 : decode M_c_countMembers.2.1 31 = .ok (.iload_n 1, 1) := by decide +kernel
theorem d_c_countMembers_32 : decode M_c_countMembers.2.1 32 = .ok (.aaload, 1) := by decide +kernel
theorem d_c_countMembers_33 : decode M_c_countMembers.2.1 33 = .ok (.iload_n 2, 1) := by decide +kernel
theorem d_c_countMembers_34 : decode M_c_countMembers.2.1 34 = .ok (.iconst 0, 1) := by decide +kernel
theorem d_c_countMembers_35 : decode M_c_countMembers.2.1 35 = .ok (.iastore, 1) := by decide +kernel
theorem d_c_countMembers_36 : decode M_c_countMembers.2.1 36 = .ok (.iinc 2 1, 3) := by decide +kernel
theorem d_c_countMembers_39 : decode M_c_countMembers.2.1 39 = .ok (.goto (-20), 3) := by decide +kernel
theorem d_c_countMembers_42 : decode M_c_countMembers.2.1 42 = .ok (.iinc 1 1, 3) := by decide +kernel
theorem d_c_countMembers_45 : decode M_c_countMembers.2.1 45 = .ok (.goto (-43), 3) := by decide +kernel
theorem d_c_countMembers_48 : decode M_c_countMembers.2.1 48 = .ok (.iconst 0, 1) := by decide +kernel
theorem d_c_countMembers_49 : decode M_c_countMembers.2.1 49 = .ok (.istore_n 1, 1) := by decide +kernel
theorem d_c_countMembers_50 : decode M_c_countMembers.2.1 50 = .ok (.iload_n 1, 1) := by decide +kernel
theorem d_c_countMembers_51 : decode M_c_countMembers.2.1 51 = .ok (.aload_n 0, 1) := by decide +kernel
theorem d_c_countMembers_52 : decode M_c_countMembers.2.1 52 = .ok (.getfield 51, 3) := by decide +kernel
theorem d_c_countMembers_55 : decode M_c_countMembers.2.1 55 = .ok (.if_icmp .ge 86, 3) := by decide +kernel
theorem d_c_countMembers_58 : decode M_c_countMembers.2.1 58 = .ok (.aload_n 0, 1) := by decide +kernel
theorem d_c_countMembers_59 : decode M_c_countMembers.2.1 59 = .ok (.getfield 16, 3) := by decide +kernel
theorem d_c_countMembers_62 : decode M_c_countMembers.2.1 62 = .ok (.iconst 0, 1) := by decide +kernel
theorem d_c_countMembers_63 : decode M_c_countMembers.2.1 63 = .ok (.aload_n 0, 1) := by decide +kernel
theorem d_c_countMembers_64 : decode M_c_countMembers.2.1 64 = .ok (.getfield 36, 3) := by decide +kernel
theorem d_c_countMembers_67 : decode M_c_countMembers.2.1 67 = .ok (.aload_n 0, 1) := by decide +kernel
theorem d_c_countMembers_68 : decode M_c_countMembers.2.1 68 = .ok (.getfield 11, 3) := by decide +kernel
theorem d_c_countMembers_71 : decode M_c_countMembers.2.1 71 = .ok (.iload_n 1, 1) := by decide +kernel
theorem d_c_countMembers_72 : decode M_c_countMembers.2.1 72 = .ok (.aaload, 1) := by decide +kernel
theorem d_c_countMembers_73 : decode M_c_countMembers.2.1 73 = .ok (.aload_n 0, 1) := by decide +kernel
theorem d_c_countMembers_74 : decode M_c_countMembers.2.1 74 = .ok (.getfield 29, 3) := by decide +kernel
theorem d_c_countMembers_77 : decode M_c_countMembers.2.1 77 = .ok (.aload_n 0, 1) := by decide +kernel
theorem d_c_countMembers_78 : decode M_c_countMembers.2.1 78 = .ok (.getfield 33, 3) := by decide +kernel
theorem d_c_countMembers_81 : decode M_c_countMembers.2.1 81 = .ok (.invokestatic 71, 3) := by decide +kernel
theorem d_c_countMembers_84 : decode M_c_countMembers.2.1 84 = .ok (.istore_n 2, 1) := by decide +kernel
theorem d_c_countMembers_85 : decode M_c_countMembers.2.1 85 = .ok (.aload_n 0, 1) := by decide +kernel
theorem d_c_countMembers_86 : decode M_c_countMembers.2.1 86 = .ok (.getfield 22, 3) := by decide +kernel
theorem d_c_countMembers_89 : decode M_c_countMembers.2.1 89 = .ok (.iload_n 2, 1) := by decide +kernel
theorem d_c_countMembers_90 : decode M_c_countMembers.2.1 90 = .ok (.dup2, 1) := by decide +kernel
theorem d_c_countMembers_91 : decode M_c_countMembers.2.1 91 = .ok (.iaload, 1) := by decide +kernel
theorem d_c_countMembers_92 : decode M_c_countMembers.2.1 92 = .ok (.iconst 1, 1) := by decide +kernel
theorem d_c_countMembers_93 : decode M_c_countMembers.2.1 93 = .ok (.iadd, 1) := by decide +kernel
theorem d_c_countMembers_94 : decode M_c_countMembers.2.1 94 = .ok (.iastore, 1) := by decide +kernel
theorem d_c_countMembers_95 : decode M_c_countMembers.2.1 95 = .ok (.iconst 0, 1) := by decide +kernel
theorem d_c_countMembers_96 : decode M_c_countMembers.2.1 96 = .ok (.istore_n 3, 1) := by decide +kernel
theorem d_c_countMembers_97 : decode M_c_countMembers.2.1 97 = .ok (.iload_n 3, 1) := by decide +kernel
theorem d_c_countMembers_98 : decode M_c_countMembers.2.1 98 = .ok (.aload_n 0, 1) := by decide +kernel
theorem d_c_countMembers_99 : decode M_c_countMembers.2.1 99 = .ok (.getfield 33, 3) := by decide +kernel
theorem d_c_countMembers_102 : decode M_c_countMembers.2.1 102 = .ok (.if_icmp .ge 33, 3) := by decide +kernel
theorem d_c_countMembers_105 : decode M_c_countMembers.2.1 105 = .ok (.aload_n 0, 1) := by decide +kernel
theorem d_c_countMembers_106 : decode M_c_countMembers.2.1 106 = .ok (.getfield 19, 3) := by decide +kernel
theorem d_c_countMembers_109 : decode M_c_countMembers.2.1 109 = .ok (.iload_n 2, 1) := by decide +kernel
theorem d_c_countMembers_110 : decode M_c_countMembers.2.1 110 = .ok (.aaload, 1) := by decide +kernel
theorem d_c_countMembers_111 : decode M_c_countMembers.2.1 111 = .ok (.iload_n 3, 1) := by decide +kernel
theorem d_c_countMembers_112 : decode M_c_countMembers.2.1 112 = .ok (.dup2, 1) := by decide +kernel
theorem d_c_countMembers_113 : decode M_c_countMembers.2.1 113 = .ok (.iaload, 1) := by decide +kernel
theorem d_c_countMembers_114 : decode M_c_countMembers.2.1 114 = .ok (.aload_n 0, 1) := by decide +kernel
theorem d_c_countMembers_115 : decode M_c_countMembers.2.1 115 = .ok (.getfield 11, 3) := by decide +kernel
theorem d_c_countMembers_118 : decode M_c_countMembers.2.1 118 = .ok (.iload_n 1, 1) := by decide +kernel
theorem d_c_countMembers_119 : decode M_c_countMembers.2.1 119 = .ok (.aaload, 1) := by decide +kernel
theorem d_c_countMembers_120 : decode M_c_countMembers.2.1 120 = .ok (.aload_n 0, 1) := by decide +kernel
theorem d_c_countMembers_121 : decode M_c_countMembers.2.1 121 = .ok (.getfield 29, 3) := by decide +kernel
theorem d_c_countMembers_124 : decode M_c_countMembers.2.1 124 = .ok (.iload_n 3, 1) := by decide +kernel
theorem d_c_countMembers_125 : decode M_c_countMembers.2.1 125 = .ok (.iadd, 1) := by decide +kernel
theorem d_c_countMembers_126 : decode M_c_countMembers.2.1 126 = .ok (.iaload, 1) := by decide +kernel
theorem d_c_countMembers_127 : decode M_c_countMembers.2.1 127 = .ok (.iadd, 1) := by decide +kernel
theorem d_c_countMembers_128 : decode M_c_countMembers.2.1 128 = .ok (.iastore, 1) := by decide +kernel
theorem d_c_countMembers_129 : decode M_c_countMembers.2.1 129 = .ok (.iinc 3 1, 3) := by decide +kernel
theorem d_c_countMembers_132 : decode M_c_countMembers.2.1 132 = .ok (.goto (-35), 3) := by decide +kernel
theorem d_c_countMembers_135 : decode M_c_countMembers.2.1 135 = .ok (.iinc 1 1, 3) := by decide +kernel
theorem d_c_countMembers_138 : decode M_c_countMembers.2.1 138 = .ok (.goto (-88), 3) := by decide +kernel
theorem d_c_countMembers_141 : decode M_c_countMembers.2.1 141 = .ok (.return_, 1) := by decide +kernel
theorem d_c_moveToMeans_0 : decode M_c_moveToMeans.2.1 0 = .ok (.iconst 0, 1) := by decide +kernel
theorem d_c_moveToMeans_1 : decode M_c_moveToMeans.2.1 1 = .ok (.istore_n 1, 1) := by decide +kernel
theorem d_c_moveToMeans_2 : decode M_c_moveToMeans.2.1 2 = .ok (.iload_n 1, 1) := by decide +kernel
theorem d_c_moveToMeans_3 : decode M_c_moveToMeans.2.1 3 = .ok (.aload_n 0, 1) := by decide +kernel
theorem d_c_moveToMeans_4 : decode M_c_moveToMeans.2.1 4 = .ok (.getfield 36, 3) := by decide +kernel
theorem d_c_moveToMeans_7 : decode M_c_moveToMeans.2.1 7 = .ok (.if_icmp .ge 59, 3) := by decide +kernel
theorem d_c_moveToMeans_10 : decode M_c_moveToMeans.2.1 10 = .ok (.aload_n 0, 1) := by decide +kernel
theorem d_c_moveToMeans_11 : decode M_c_moveToMeans.2.1 11 = .ok (.getfield 22, 3) := by decide +kernel
theorem d_c_moveToMeans_14 : decode M_c_moveToMeans.2.1 14 = .ok (.iload_n 1, 1) := by decide +kernel
theorem d_c_moveToMeans_15 : decode M_c_moveToMeans.2.1 15 = .ok (.iaload, 1) := by decide +kernel
theorem d_c_moveToMeans_16 : decode M_c_moveToMeans.2.1 16 = .ok (.ifCond .le 44, 3) := by decide +kernel
theorem d_c_moveToMeans_19 : decode M_c_moveToMeans.2.1 19 = .ok (.iconst 0, 1) := by decide +kernel
theorem d_c_moveToMeans_20 : decode M_c_moveToMeans.2.1 20 = .ok (.istore_n 2, 1) := by decide +kernel
theorem d_c_moveToMeans_21 : decode M_c_moveToMeans.2.1 21 = .ok (.iload_n 2, 1) := by decide +kernel
theorem d_c_moveToMeans_22 : decode M_c_moveToMeans.2.1 22 = .ok (.aload_n 0, 1) := by decide +kernel
theorem d_c_moveToMeans_23 : decode M_c_moveToMeans.2.1 23 = .ok (.getfield 33, 3) := by decide +kernel
theorem d_c_moveToMeans_26 : decode M_c_moveToMeans.2.1 26 = .ok (.if_icmp .ge 34, 3) := by decide +kernel
theorem d_c_moveToMeans_29 : decode M_c_moveToMeans.2.1 29 = .ok (.aload_n 0, 1) := by decide +kernel
theorem d_c_moveToMeans_30 : decode M_c_moveToMeans.2.1 30 = .ok (.getfield 16, 3) := by decide +kernel
theorem d_c_moveToMeans_33 : decode M_c_moveToMeans.2.1 33 = .ok (.iload_n 1, 1) := by decide +kernel
theorem d_c_moveToMeans_34 : decode M_c_moveToMeans.2.1 34 = .ok (.aaload, 1) := by decide +kernel
theorem d_c_moveToMeans_35 : decode M_c_moveToMeans.2.1 35 = .ok (.iload_n 2, 1) := by decide +kernel
theorem d_c_moveToMeans_36 : decode M_c_moveToMeans.2.1 36 = .ok (.aload_n 0, 1) := by decide +kernel
theorem d_c_moveToMeans_37 : decode M_c_moveToMeans.2.1 37 = .ok (.getfield 19, 3) := by decide +kernel
theorem d_c_moveToMeans_40 : decode M_c_moveToMeans.2.1 40 = .ok (.iload_n 1, 1) := by decide +kernel
theorem d_c_moveToMeans_41 : decode M_c_moveToMeans.2.1 41 = .ok (.aaload, 1) := by decide +kernel
theorem d_c_moveToMeans_42 : decode M_c_moveToMeans.2.1 42 = .ok (.iload_n 2, 1) := by decide +kernel
theorem d_c_moveToMeans_43 : decode M_c_moveToMeans.2.1 43 = .ok (.iaload, 1) := by decide +kernel
theorem d_c_moveToMeans_44 : decode M_c_moveToMeans.2.1 44 = .ok (.aload_n 0, 1) := by decide +kernel
theorem d_c_moveToMeans_45 : decode M_c_moveToMeans.2.1 45 = .ok (.getfield 22, 3) := by decide +kernel
theorem d_c_moveToMeans_48 : decode M_c_moveToMeans.2.1 48 = .ok (.iload_n 1, 1) := by decide +kernel
theorem d_c_moveToMeans_49 : decode M_c_moveToMeans.2.1 49 = .ok (.iaload, 1) := by decide +kernel
theorem d_c_moveToMeans_50 : decode M_c_moveToMeans.2.1 50 = .ok (.invokestatic 79, 3) := by decide +kernel
theorem d_c_moveToMeans_53 : decode M_c_moveToMeans.2.1 53 = .ok (.iastore, 1) := by decide +kernel
theorem d_c_moveToMeans_54 : decode M_c_moveToMeans.2.1 54 = .ok (.iinc 2 1, 3) := by decide +kernel
theorem d_c_moveToMeans_57 : decode M_c_moveToMeans.2.1 57 = .ok (.goto (-36), 3) := by decide +kernel
theorem d_c_moveToMeans_60 : decode M_c_moveToMeans.2.1 60 = .ok (.iinc 1 1, 3) := by decide +kernel
theorem d_c_moveToMeans_63 : decode M_c_moveToMeans.2.1 63 = .ok (.goto (-61), 3) := by decide +kernel
theorem d_c_moveToMeans_66 : decode M_c_moveToMeans.2.1 66 = .ok (.return_, 1) := by decide +kernel
theorem d_j_floorDiv_0 : decode M_j_floorDiv.2.1 0 = .ok (.iload_n 0, 1) := by decide +kernel
theorem d_j_floorDiv_1 : decode M_j_floorDiv.2.1 1 = .ok (.iload_n 1, 1) := by decide +kernel
theorem d_j_floorDiv_2 : decode M_j_floorDiv.2.1 2 = .ok (.idiv, 1) := by decide +kernel
theorem d_j_floorDiv_3 : decode M_j_floorDiv.2.1 3 = .ok (.istore_n 2, 1) := by decide +kernel
theorem d_j_floorDiv_4 : decode M_j_floorDiv.2.1 4 = .ok (.iload_n 0, 1) := by decide +kernel
theorem d_j_floorDiv_5 : decode M_j_floorDiv.2.1 5 = .ok (.iload_n 1, 1) := by decide +kernel
theorem d_j_floorDiv_6 : decode M_j_floorDiv.2.1 6 = .ok (.ixor, 1) := by decide +kernel
theorem d_j_floorDiv_7 : decode M_j_floorDiv.2.1 7 = .ok (.ifCond .ge 14, 3) := by decide +kernel
theorem d_j_floorDiv_10 : decode M_j_floorDiv.2.1 10 = .ok (.iload_n 2, 1) := by decide +kernel
theorem d_j_floorDiv_11 : decode M_j_floorDiv.2.1 11 = .ok (.iload_n 1, 1) := by decide +kernel
theorem d_j_floorDiv_12 : decode M_j_floorDiv.2.1 12 = .ok (.imul, 1) := by decide +kernel
theorem d_j_floorDiv_13 : decode M_j_floorDiv.2.1 13 = .ok (.iload_n 0, 1) := by decide +kernel
theorem d_j_floorDiv_14 : decode M_j_floorDiv.2.1 14 = .ok (.if_icmp .eq 7, 3) := by decide +kernel
theorem d_j_floorDiv_17 : decode M_j_floorDiv.2.1 17 = .ok (.iload_n 2, 1) := by decide +kernel
theorem d_j_floorDiv_18 : decode M_j_floorDiv.2.1 18 = .ok (.iconst 1, 1) := by decide +kernel
theorem d_j_floorDiv_19 : decode M_j_floorDiv.2.1 19 = .ok (.isub, 1) := by decide +kernel
theorem d_j_floorDiv_20 : decode M_j_floorDiv.2.1 20 = .ok (.ireturn, 1) := by decide +kernel
theorem d_j_floorDiv_21 : decode M_j_floorDiv.2.1 21 = .ok (.iload_n 2, 1) := by decide +kernel
theorem d_j_floorDiv_22 : decode M_j_floorDiv.2.1 22 = .ok (.ireturn, 1) := by decide +kernel
theorem d_c_fillEmptyCentres_0 : decode M_c_fillEmptyCentres.2.1 0 = .ok (.iconst 0, 1) := by decide +kernel
theorem d_c_fillEmptyCentres_1 : decode M_c_fillEmptyCentres.2.1 1 = .ok (.istore_n 1, 1) := by decide +kernel
theorem d_c_fillEmptyCentres_2 : decode M_c_fillEmptyCentres.2.1 2 = .ok (.iload_n 1, 1) := by decide +kernel
theorem d_c_fillEmptyCentres_3 : decode M_c_fillEmptyCentres.2.1 3 = .ok (.aload_n 0, 1) := by decide +kernel
theorem d_c_fillEmptyCentres_4 : decode M_c_fillEmptyCentres.2.1 4 = .ok (.getfield 36, 3) := by decide +kernel
theorem d_c_fillEmptyCentres_7 : decode M_c_fillEmptyCentres.2.1 7 = .ok (.if_icmp .ge 21, 3) := by decide +kernel
theorem d_c_fillEmptyCentres_10 : decode M_c_fillEmptyCentres.2.1 10 = .ok (.aload_n 0, 1) := by decide +kernel
theorem d_c_fillEmptyCentres_11 : decode M_c_fillEmptyCentres.2.1 11 = .ok (.getfield 26, 3) := by decide +kernel
theorem d_c_fillEmptyCentres_14 : decode M_c_fillEmptyCentres.2.1 14 = .ok (.iload_n 1, 1) := by decide +kernel
theorem d_c_fillEmptyCentres_15 : decode M_c_fillEmptyCentres.2.1 15 = .ok (.aload_n 0, 1) := by decide +kernel
theorem d_c_fillEmptyCentres_16 : decode M_c_fillEmptyCentres.2.1 16 = .ok (.getfield 22, 3) := by decide +kernel
theorem d_c_fillEmptyCentres_19 : decode M_c_fillEmptyCentres.2.1 19 = .ok (.iload_n 1, 1) := by decide +kernel
theorem d_c_fillEmptyCentres_20 : decode M_c_fillEmptyCentres.2.1 20 = .ok (.iaload, 1) := by decide +kernel
theorem d_c_fillEmptyCentres_21 : decode M_c_fillEmptyCentres.2.1 21 = .ok (.iastore, 1) := by decide +kernel
theorem d_c_fillEmptyCentres_22 : decode M_c_fillEmptyCentres.2.1 22 = .ok (.iinc 1 1, 3) := by decide +kernel
theorem d_c_fillEmptyCentres_25 : decode M_c_fillEmptyCentres.2.1 25 = .ok (.goto (-23), 3) := by decide +kernel
theorem d_c_fillEmptyCentres_28 : decode M_c_fillEmptyCentres.2.1 28 = .ok (.iconst 0, 1) := by decide +kernel
theorem d_c_fillEmptyCentres_29 : decode M_c_fillEmptyCentres.2.1 29 = .ok (.istore_n 1, 1) := by decide +kernel
theorem d_c_fillEmptyCentres_30 : decode M_c_fillEmptyCentres.2.1 30 = .ok (.iload_n 1, 1) := by decide +kernel
theorem d_c_fillEmptyCentres_31 : decode M_c_fillEmptyCentres.2.1 31 = .ok (.aload_n 0, 1) := by decide +kernel
theorem d_c_fillEmptyCentres_32 : decode M_c_fillEmptyCentres.2.1 32 = .ok (.getfield 36, 3) := by decide +kernel
theorem d_c_fillEmptyCentres_35 : decode M_c_fillEmptyCentres.2.1 35 = .ok (.if_icmp .ge 27, 3) := by decide +kernel
theorem d_c_fillEmptyCentres_38 : decode M_c_fillEmptyCentres.2.1 38 = .ok (.aload_n 0, 1) := by decide +kernel
theorem d_c_fillEmptyCentres_39 : decode M_c_fillEmptyCentres.2.1 39 = .ok (.getfield 22, 3) := by decide +kernel
theorem d_c_fillEmptyCentres_42 : decode M_c_fillEmptyCentres.2.1 42 = .ok (.iload_n 1, 1) := by decide +kernel
theorem d_c_fillEmptyCentres_43 : decode M_c_fillEmptyCentres.2.1 43 = .ok (.iaload, 1) := by decide +kernel
theorem d_c_fillEmptyCentres_44 : decode M_c_fillEmptyCentres.2.1 44 = .ok (.ifCond .ne 12, 3) := by decide +kernel
theorem d_c_fillEmptyCentres_47 : decode M_c_fillEmptyCentres.2.1 47 = .ok (.aload_n 0, 1) := by decide +kernel
theorem d_c_fillEmptyCentres_48 : decode M_c_fillEmptyCentres.2.1 48 = .ok (.iload_n 1, 1) := by decide +kernel
theorem d_c_fillEmptyCentres_49 : decode M_c_fillEmptyCentres.2.1 49 = .ok (.aload_n 0, 1) := by decide +kernel
theorem d_c_fillEmptyCentres_50 : decode M_c_fillEmptyCentres.2.1 50 = .ok (.invokevirtual 82, 3) := by decide +kernel
theorem d_c_fillEmptyCentres_53 : decode M_c_fillEmptyCentres.2.1 53 = .ok (.invokevirtual 86, 3) := by decide +kernel
theorem d_c_fillEmptyCentres_56 : decode M_c_fillEmptyCentres.2.1 56 = .ok (.iinc 1 1, 3) := by decide +kernel
theorem d_c_fillEmptyCentres_59 : decode M_c_fillEmptyCentres.2.1 59 = .ok (.goto (-29), 3) := by decide +kernel
theorem d_c_fillEmptyCentres_62 : decode M_c_fillEmptyCentres.2.1 62 = .ok (.return_, 1) := by decide +kernel
theorem d_c_greatestShare_0 : decode M_c_greatestShare.2.1 0 = .ok (.iconst 0, 1) := by decide +kernel
theorem d_c_greatestShare_1 : decode M_c_greatestShare.2.1 1 = .ok (.istore_n 1, 1) := by decide +kernel
theorem d_c_greatestShare_2 : decode M_c_greatestShare.2.1 2 = .ok (.iconst 1, 1) := by decide +kernel
theorem d_c_greatestShare_3 : decode M_c_greatestShare.2.1 3 = .ok (.istore_n 2, 1) := by decide +kernel
theorem d_c_greatestShare_4 : decode M_c_greatestShare.2.1 4 = .ok (.iload_n 2, 1) := by decide +kernel
theorem d_c_greatestShare_5 : decode M_c_greatestShare.2.1 5 = .ok (.aload_n 0, 1) := by decide +kernel
theorem d_c_greatestShare_6 : decode M_c_greatestShare.2.1 6 = .ok (.getfield 36, 3) := by decide +kernel
theorem d_c_greatestShare_9 : decode M_c_greatestShare.2.1 9 = .ok (.if_icmp .ge 26, 3) := by decide +kernel
theorem d_c_greatestShare_12 : decode M_c_greatestShare.2.1 12 = .ok (.aload_n 0, 1) := by decide +kernel
theorem d_c_greatestShare_13 : decode M_c_greatestShare.2.1 13 = .ok (.getfield 26, 3) := by decide +kernel
theorem d_c_greatestShare_16 : decode M_c_greatestShare.2.1 16 = .ok (.iload_n 2, 1) := by decide +kernel
theorem d_c_greatestShare_17 : decode M_c_greatestShare.2.1 17 = .ok (.iaload, 1) := by decide +kernel
theorem d_c_greatestShare_18 : decode M_c_greatestShare.2.1 18 = .ok (.aload_n 0, 1) := by decide +kernel
theorem d_c_greatestShare_19 : decode M_c_greatestShare.2.1 19 = .ok (.getfield 26, 3) := by decide +kernel
theorem d_c_greatestShare_22 : decode M_c_greatestShare.2.1 22 = .ok (.iload_n 1, 1) := by decide +kernel
theorem d_c_greatestShare_23 : decode M_c_greatestShare.2.1 23 = .ok (.iaload, 1) := by decide +kernel
theorem d_c_greatestShare_24 : decode M_c_greatestShare.2.1 24 = .ok (.if_icmp .le 5, 3) := by decide +kernel
theorem d_c_greatestShare_27 : decode M_c_greatestShare.2.1 27 = .ok (.iload_n 2, 1) := by decide +kernel
theorem d_c_greatestShare_28 : decode M_c_greatestShare.2.1 28 = .ok (.istore_n 1, 1) := by decide +kernel
theorem d_c_greatestShare_29 : decode M_c_greatestShare.2.1 29 = .ok (.iinc 2 1, 3) := by decide +kernel
theorem d_c_greatestShare_32 : decode M_c_greatestShare.2.1 32 = .ok (.goto (-28), 3) := by decide +kernel
theorem d_c_greatestShare_35 : decode M_c_greatestShare.2.1 35 = .ok (.iload_n 1, 1) := by decide +kernel
theorem d_c_greatestShare_36 : decode M_c_greatestShare.2.1 36 = .ok (.ireturn, 1) := by decide +kernel
theorem d_c_splitInto_0 : decode M_c_splitInto.2.1 0 = .ok (.iconst 0, 1) := by decide +kernel
theorem d_c_splitInto_1 : decode M_c_splitInto.2.1 1 = .ok (.istore_n 3, 1) := by decide +kernel
theorem d_c_splitInto_2 : decode M_c_splitInto.2.1 2 = .ok (.iload_n 3, 1) := by decide +kernel
theorem d_c_splitInto_3 : decode M_c_splitInto.2.1 3 = .ok (.aload_n 0, 1) := by decide +kernel
theorem d_c_splitInto_4 : decode M_c_splitInto.2.1 4 = .ok (.getfield 33, 3) := by decide +kernel
theorem d_c_splitInto_7 : decode M_c_splitInto.2.1 7 = .ok (.if_icmp .ge 25, 3) := by decide +kernel
theorem d_c_splitInto_10 : decode M_c_splitInto.2.1 10 = .ok (.aload_n 0, 1) := by decide +kernel
theorem d_c_splitInto_11 : decode M_c_splitInto.2.1 11 = .ok (.getfield 16, 3) := by decide +kernel
theorem d_c_splitInto_14 : decode M_c_splitInto.2.1 14 = .ok (.iload_n 1, 1) := by decide +kernel
theorem d_c_splitInto_15 : decode M_c_splitInto.2.1 15 = .ok (.aaload, 1) := by decide +kernel
theorem d_c_splitInto_16 : decode M_c_splitInto.2.1 16 = .ok (.iload_n 3, 1) := by decide +kernel
theorem d_c_splitInto_17 : decode M_c_splitInto.2.1 17 = .ok (.aload_n 0, 1) := by decide +kernel
theorem d_c_splitInto_18 : decode M_c_splitInto.2.1 18 = .ok (.getfield 16, 3) := by decide +kernel
theorem d_c_splitInto_21 : decode M_c_splitInto.2.1 21 = .ok (.iload_n 2, 1) := by decide +kernel
theorem d_c_splitInto_22 : decode M_c_splitInto.2.1 22 = .ok (.aaload, 1) := by decide +kernel
theorem d_c_splitInto_23 : decode M_c_splitInto.2.1 23 = .ok (.iload_n 3, 1) := by decide +kernel
theorem d_c_splitInto_24 : decode M_c_splitInto.2.1 24 = .ok (.iaload, 1) := by decide +kernel
theorem d_c_splitInto_25 : decode M_c_splitInto.2.1 25 = .ok (.iastore, 1) := by decide +kernel
theorem d_c_splitInto_26 : decode M_c_splitInto.2.1 26 = .ok (.iinc 3 1, 3) := by decide +kernel
theorem d_c_splitInto_29 : decode M_c_splitInto.2.1 29 = .ok (.goto (-27), 3) := by decide +kernel
theorem d_c_splitInto_32 : decode M_c_splitInto.2.1 32 = .ok (.aload_n 0, 1) := by decide +kernel
theorem d_c_splitInto_33 : decode M_c_splitInto.2.1 33 = .ok (.getfield 16, 3) := by decide +kernel
theorem d_c_splitInto_36 : decode M_c_splitInto.2.1 36 = .ok (.iload_n 1, 1) := by decide +kernel
theorem d_c_splitInto_37 : decode M_c_splitInto.2.1 37 = .ok (.aaload, 1) := by decide +kernel
theorem d_c_splitInto_38 : decode M_c_splitInto.2.1 38 = .ok (.iconst 0, 1) := by decide +kernel
theorem d_c_splitInto_39 : decode M_c_splitInto.2.1 39 = .ok (.dup2, 1) := by decide +kernel
theorem d_c_splitInto_40 : decode M_c_splitInto.2.1 40 = .ok (.iaload, 1) := by decide +kernel
theorem d_c_splitInto_41 : decode M_c_splitInto.2.1 41 = .ok (.iconst 1, 1) := by decide +kernel
theorem d_c_splitInto_42 : decode M_c_splitInto.2.1 42 = .ok (.iadd, 1) := by decide +kernel
theorem d_c_splitInto_43 : decode M_c_splitInto.2.1 43 = .ok (.iastore, 1) := by decide +kernel
theorem d_c_splitInto_44 : decode M_c_splitInto.2.1 44 = .ok (.aload_n 0, 1) := by decide +kernel
theorem d_c_splitInto_45 : decode M_c_splitInto.2.1 45 = .ok (.getfield 26, 3) := by decide +kernel
theorem d_c_splitInto_48 : decode M_c_splitInto.2.1 48 = .ok (.iload_n 1, 1) := by decide +kernel
theorem d_c_splitInto_49 : decode M_c_splitInto.2.1 49 = .ok (.aload_n 0, 1) := by decide +kernel
theorem d_c_splitInto_50 : decode M_c_splitInto.2.1 50 = .ok (.getfield 26, 3) := by decide +kernel
theorem d_c_splitInto_53 : decode M_c_splitInto.2.1 53 = .ok (.iload_n 2, 1) := by decide +kernel
theorem d_c_splitInto_54 : decode M_c_splitInto.2.1 54 = .ok (.iaload, 1) := by decide +kernel
theorem d_c_splitInto_55 : decode M_c_splitInto.2.1 55 = .ok (.iconst 2, 1) := by decide +kernel
theorem d_c_splitInto_56 : decode M_c_splitInto.2.1 56 = .ok (.idiv, 1) := by decide +kernel
theorem d_c_splitInto_57 : decode M_c_splitInto.2.1 57 = .ok (.iastore, 1) := by decide +kernel
theorem d_c_splitInto_58 : decode M_c_splitInto.2.1 58 = .ok (.aload_n 0, 1) := by decide +kernel
theorem d_c_splitInto_59 : decode M_c_splitInto.2.1 59 = .ok (.getfield 26, 3) := by decide +kernel
theorem d_c_splitInto_62 : decode M_c_splitInto.2.1 62 = .ok (.iload_n 2, 1) := by decide +kernel
theorem d_c_splitInto_63 : decode M_c_splitInto.2.1 63 = .ok (.dup2, 1) := by decide +kernel
theorem d_c_splitInto_64 : decode M_c_splitInto.2.1 64 = .ok (.iaload, 1) := by decide +kernel
theorem d_c_splitInto_65 : decode M_c_splitInto.2.1 65 = .ok (.aload_n 0, 1) := by decide +kernel
theorem d_c_splitInto_66 : decode M_c_splitInto.2.1 66 = .ok (.getfield 26, 3) := by decide +kernel
theorem d_c_splitInto_69 : decode M_c_splitInto.2.1 69 = .ok (.iload_n 1, 1) := by decide +kernel
theorem d_c_splitInto_70 : decode M_c_splitInto.2.1 70 = .ok (.iaload, 1) := by decide +kernel
theorem d_c_splitInto_71 : decode M_c_splitInto.2.1 71 = .ok (.isub, 1) := by decide +kernel
theorem d_c_splitInto_72 : decode M_c_splitInto.2.1 72 = .ok (.iastore, 1) := by decide +kernel
theorem d_c_splitInto_73 : decode M_c_splitInto.2.1 73 = .ok (.return_, 1) := by decide +kernel
theorem d_c_giveCentres_0 : decode M_c_giveCentres.2.1 0 = .ok (.iconst 0, 1) := by decide +kernel
theorem d_c_giveCentres_1 : decode M_c_giveCentres.2.1 1 = .ok (.istore_n 3, 1) := by decide +kernel
theorem d_c_giveCentres_2 : decode M_c_giveCentres.2.1 2 = .ok (.iload_n 3, 1) := by decide +kernel
theorem d_c_giveCentres_3 : decode M_c_giveCentres.2.1 3 = .ok (.aload_n 0, 1) := by decide +kernel
theorem d_c_giveCentres_4 : decode M_c_giveCentres.2.1 4 = .ok (.getfield 36, 3) := by decide +kernel
theorem d_c_giveCentres_7 : decode M_c_giveCentres.2.1 7 = .ok (.if_icmp .ge 44, 3) := by decide +kernel
theorem d_c_giveCentres_10 : decode M_c_giveCentres.2.1 10 = .ok (.iconst 0, 1) := by decide +kernel
theorem d_c_giveCentres_11 : decode M_c_giveCentres.2.1 11 = .ok (.istore 4, 2) := by decide +kernel
theorem d_c_giveCentres_13 : decode M_c_giveCentres.2.1 13 = .ok (.iload 4, 2) := by decide +kernel
theorem d_c_giveCentres_15 : decode M_c_giveCentres.2.1 15 = .ok (.aload_n 0, 1) := by decide +kernel
theorem d_c_giveCentres_16 : decode M_c_giveCentres.2.1 16 = .ok (.getfield 33, 3) := by decide +kernel
theorem d_c_giveCentres_19 : decode M_c_giveCentres.2.1 19 = .ok (.if_icmp .ge 26, 3) := by decide +kernel
theorem d_c_giveCentres_22 : decode M_c_giveCentres.2.1 22 = .ok (.aload_n 1, 1) := by decide +kernel
theorem d_c_giveCentres_23 : decode M_c_giveCentres.2.1 23 = .ok (.iload_n 2, 1) := by decide +kernel
theorem d_c_giveCentres_24 : decode M_c_giveCentres.2.1 24 = .ok (.iload_n 3, 1) := by decide +kernel
theorem d_c_giveCentres_25 : decode M_c_giveCentres.2.1 25 = .ok (.iadd, 1) := by decide +kernel
theorem d_c_giveCentres_26 : decode M_c_giveCentres.2.1 26 = .ok (.aaload, 1) := by decide +kernel
theorem d_c_giveCentres_27 : decode M_c_giveCentres.2.1 27 = .ok (.iload 4, 2) := by decide +kernel
theorem d_c_giveCentres_29 : decode M_c_giveCentres.2.1 29 = .ok (.aload_n 0, 1) := by decide +kernel
theorem d_c_giveCentres_30 : decode M_c_giveCentres.2.1 30 = .ok (.getfield 16, 3) := by decide +kernel
theorem d_c_giveCentres_33 : decode M_c_giveCentres.2.1 33 = .ok (.iload_n 3, 1) := by decide +kernel
theorem d_c_giveCentres_34 : decode M_c_giveCentres.2.1 34 = .ok (.aaload, 1) := by decide +kernel
theorem d_c_giveCentres_35 : decode M_c_giveCentres.2.1 35 = .ok (.iload 4, 2) := by decide +kernel
theorem d_c_giveCentres_37 : decode M_c_giveCentres.2.1 37 = .ok (.iaload, 1) := by decide +kernel
theorem d_c_giveCentres_38 : decode M_c_giveCentres.2.1 38 = .ok (.iastore, 1) := by decide +kernel
theorem d_c_giveCentres_39 : decode M_c_giveCentres.2.1 39 = .ok (.iinc 4 1, 3) := by decide +kernel
theorem d_c_giveCentres_42 : decode M_c_giveCentres.2.1 42 = .ok (.goto (-29), 3) := by decide +kernel
theorem d_c_giveCentres_45 : decode M_c_giveCentres.2.1 45 = .ok (.iinc 3 1, 3) := by decide +kernel
theorem d_c_giveCentres_48 : decode M_c_giveCentres.2.1 48 = .ok (.goto (-46), 3) := by decide +kernel
theorem d_c_giveCentres_51 : decode M_c_giveCentres.2.1 51 = .ok (.return_, 1) := by decide +kernel
theorem d_q_keepWhatIsLeft_0 : decode M_q_keepWhatIsLeft.2.1 0 = .ok (.iconst 0, 1) := by decide +kernel
theorem d_q_keepWhatIsLeft_1 : decode M_q_keepWhatIsLeft.2.1 1 = .ok (.istore_n 1, 1) := by decide +kernel
theorem d_q_keepWhatIsLeft_2 : decode M_q_keepWhatIsLeft.2.1 2 = .ok (.iload_n 1, 1) := by decide +kernel
theorem d_q_keepWhatIsLeft_3 : decode M_q_keepWhatIsLeft.2.1 3 = .ok (.aload_n 0, 1) := by decide +kernel
theorem d_q_keepWhatIsLeft_4 : decode M_q_keepWhatIsLeft.2.1 4 = .ok (.getfield 26, 3) := by decide +kernel
theorem d_q_keepWhatIsLeft_7 : decode M_q_keepWhatIsLeft.2.1 7 = .ok (.getfield 233, 3) := by decide +kernel
theorem d_q_keepWhatIsLeft_10 : decode M_q_keepWhatIsLeft.2.1 10 = .ok (.if_icmp .ge 40, 3) := by decide +kernel
theorem d_q_keepWhatIsLeft_13 : decode M_q_keepWhatIsLeft.2.1 13 = .ok (.aload_n 0, 1) := by decide +kernel
theorem d_q_keepWhatIsLeft_14 : decode M_q_keepWhatIsLeft.2.1 14 = .ok (.getfield 26, 3) := by decide +kernel
theorem d_q_keepWhatIsLeft_17 : decode M_q_keepWhatIsLeft.2.1 17 = .ok (.getfield 236, 3) := by decide +kernel
theorem d_q_keepWhatIsLeft_20 : decode M_q_keepWhatIsLeft.2.1 20 = .ok (.iload_n 1, 1) := by decide +kernel
theorem d_q_keepWhatIsLeft_21 : decode M_q_keepWhatIsLeft.2.1 21 = .ok (.aaload, 1) := by decide +kernel
theorem d_q_keepWhatIsLeft_22 : decode M_q_keepWhatIsLeft.2.1 22 = .ok (.astore_n 2, 1) := by decide +kernel
theorem d_q_keepWhatIsLeft_23 : decode M_q_keepWhatIsLeft.2.1 23 = .ok (.aload_n 2, 1) := by decide +kernel
theorem d_q_keepWhatIsLeft_24 : decode M_q_keepWhatIsLeft.2.1 24 = .ok (.aload_n 0, 1) := by decide +kernel
theorem d_q_keepWhatIsLeft_25 : decode M_q_keepWhatIsLeft.2.1 25 = .ok (.getfield 33, 3) := by decide +kernel
theorem d_q_keepWhatIsLeft_28 : decode M_q_keepWhatIsLeft.2.1 28 = .ok (.getfield 111, 3) := by decide +kernel
theorem d_q_keepWhatIsLeft_31 : decode M_q_keepWhatIsLeft.2.1 31 = .ok (.aload_n 0, 1) := by decide +kernel
theorem d_q_keepWhatIsLeft_32 : decode M_q_keepWhatIsLeft.2.1 32 = .ok (.getfield 33, 3) := by decide +kernel
theorem d_q_keepWhatIsLeft_35 : decode M_q_keepWhatIsLeft.2.1 35 = .ok (.aload_n 2, 1) := by decide +kernel
theorem d_q_keepWhatIsLeft_36 : decode M_q_keepWhatIsLeft.2.1 36 = .ok (.invokevirtual 249, 3) := by decide +kernel
theorem d_q_keepWhatIsLeft_39 : decode M_q_keepWhatIsLeft.2.1 39 = .ok (.aaload, 1) := by decide +kernel
theorem d_q_keepWhatIsLeft_40 : decode M_q_keepWhatIsLeft.2.1 40 = .ok (.aload_n 2, 1) := by decide +kernel
theorem d_q_keepWhatIsLeft_41 : decode M_q_keepWhatIsLeft.2.1 41 = .ok (.invokestatic 253, 3) := by decide +kernel
theorem d_q_keepWhatIsLeft_44 : decode M_q_keepWhatIsLeft.2.1 44 = .ok (.iinc 1 1, 3) := by decide +kernel
theorem d_q_keepWhatIsLeft_47 : decode M_q_keepWhatIsLeft.2.1 47 = .ok (.goto (-45), 3) := by decide +kernel
theorem d_q_keepWhatIsLeft_50 : decode M_q_keepWhatIsLeft.2.1 50 = .ok (.return_, 1) := by decide +kernel
theorem d_z_nearestList_0 : decode M_z_nearestList.2.1 0 = .ok (.aload_n 0, 1) := by decide +kernel
theorem d_z_nearestList_1 : decode M_z_nearestList.2.1 1 = .ok (.getfield 11, 3) := by decide +kernel
theorem d_z_nearestList_4 : decode M_z_nearestList.2.1 4 = .ok (.iconst 0, 1) := by decide +kernel
theorem d_z_nearestList_5 : decode M_z_nearestList.2.1 5 = .ok (.aload_n 0, 1) := by decide +kernel
theorem d_z_nearestList_6 : decode M_z_nearestList.2.1 6 = .ok (.getfield 31, 3) := by decide +kernel
theorem d_z_nearestList_9 : decode M_z_nearestList.2.1 9 = .ok (.aload_n 1, 1) := by decide +kernel
theorem d_z_nearestList_10 : decode M_z_nearestList.2.1 10 = .ok (.iconst 0, 1) := by decide +kernel
theorem d_z_nearestList_11 : decode M_z_nearestList.2.1 11 = .ok (.iconst 4, 1) := by decide +kernel
theorem d_z_nearestList_12 : decode M_z_nearestList.2.1 12 = .ok (.invokestatic 45, 3) := by decide +kernel
theorem d_z_nearestList_15 : decode M_z_nearestList.2.1 15 = .ok (.ireturn, 1) := by decide +kernel
theorem d_q_subtract_0 : decode M_q_subtract.2.1 0 = .ok (.iconst 0, 1) := by decide +kernel
theorem d_q_subtract_1 : decode M_q_subtract.2.1 1 = .ok (.istore_n 3, 1) := by decide +kernel
theorem d_q_subtract_2 : decode M_q_subtract.2.1 2 = .ok (.iload_n 3, 1) := by decide +kernel
theorem d_q_subtract_3 : decode M_q_subtract.2.1 3 = .ok (.iconst 4, 1) := by decide +kernel
theorem d_q_subtract_4 : decode M_q_subtract.2.1 4 = .ok (.if_icmp .ge 19, 3) := by decide +kernel
theorem d_q_subtract_7 : decode M_q_subtract.2.1 7 = .ok (.aload_n 2, 1) := by decide +kernel
theorem d_q_subtract_8 : decode M_q_subtract.2.1 8 = .ok (.iload_n 3, 1) := by decide +kernel
theorem d_q_subtract_9 : decode M_q_subtract.2.1 9 = .ok (.aload_n 0, 1) := by decide +kernel
theorem d_q_subtract_10 : decode M_q_subtract.2.1 10 = .ok (.iload_n 3, 1) := by decide +kernel
theorem d_q_subtract_11 : decode M_q_subtract.2.1 11 = .ok (.iaload, 1) := by decide +kernel
theorem d_q_subtract_12 : decode M_q_subtract.2.1 12 = .ok (.aload_n 1, 1) := by decide +kernel
theorem d_q_subtract_13 : decode M_q_subtract.2.1 13 = .ok (.iload_n 3, 1) := by decide +kernel
theorem d_q_subtract_14 : decode M_q_subtract.2.1 14 = .ok (.iaload, 1) := by decide +kernel
theorem d_q_subtract_15 : decode M_q_subtract.2.1 15 = .ok (.isub, 1) := by decide +kernel
theorem d_q_subtract_16 : decode M_q_subtract.2.1 16 = .ok (.iastore, 1) := by decide +kernel
theorem d_q_subtract_17 : decode M_q_subtract.2.1 17 = .ok (.iinc 3 1, 3) := by decide +kernel
theorem d_q_subtract_20 : decode M_q_subtract.2.1 20 = .ok (.goto (-18), 3) := by decide +kernel
theorem d_q_subtract_23 : decode M_q_subtract.2.1 23 = .ok (.return_, 1) := by decide +kernel
theorem d_q_learnWords_0 : decode M_q_learnWords.2.1 0 = .ok (.aload_n 0, 1) := by decide +kernel
theorem d_q_learnWords_1 : decode M_q_learnWords.2.1 1 = .ok (.getfield 33, 3) := by decide +kernel
theorem d_q_learnWords_4 : decode M_q_learnWords.2.1 4 = .ok (.getfield 118, 3) := by decide +kernel
theorem d_q_learnWords_7 : decode M_q_learnWords.2.1 7 = .ok (.invokestatic 121, 3) := by decide +kernel
theorem d_q_learnWords_10 : decode M_q_learnWords.2.1 10 = .ok (.istore_n 2, 1) := by decide +kernel
theorem d_q_learnWords_11 : decode M_q_learnWords.2.1 11 = .ok (.iconst 0, 1) := by decide +kernel
theorem d_q_learnWords_12 : decode M_q_learnWords.2.1 12 = .ok (.istore_n 3, 1) := by decide +kernel
theorem d_q_learnWords_13 : decode M_q_learnWords.2.1 13 = .ok (.iload_n 3, 1) := by decide +kernel
theorem d_q_learnWords_14 : decode M_q_learnWords.2.1 14 = .ok (.aload_n 0, 1) := by decide +kernel
theorem d_q_learnWords_15 : decode M_q_learnWords.2.1 15 = .ok (.getfield 33, 3) := by decide +kernel
theorem d_q_learnWords_18 : decode M_q_learnWords.2.1 18 = .ok (.getfield 118, 3) := by decide +kernel
theorem d_q_learnWords_21 : decode M_q_learnWords.2.1 21 = .ok (.invokestatic 257, 3) := by decide +kernel
theorem d_q_learnWords_24 : decode M_q_learnWords.2.1 24 = .ok (.if_icmp .ge 84, 3) := by decide +kernel
theorem d_q_learnWords_27 : decode M_q_learnWords.2.1 27 = .ok (.aload_n 0, 1) := by decide +kernel
theorem d_q_learnWords_28 : decode M_q_learnWords.2.1 28 = .ok (.getfield 33, 3) := by decide +kernel
theorem d_q_learnWords_31 : decode M_q_learnWords.2.1 31 = .ok (.getfield 118, 3) := by decide +kernel
theorem d_q_learnWords_34 : decode M_q_learnWords.2.1 34 = .ok (.ifCond .ne 44, 3) := by decide +kernel
theorem d_q_learnWords_37 : decode M_q_learnWords.2.1 37 = .ok (.aload_n 0, 1) := by decide +kernel
theorem d_q_learnWords_38 : decode M_q_learnWords.2.1 38 = .ok (.getfield 26, 3) := by decide +kernel
theorem d_q_learnWords_41 : decode M_q_learnWords.2.1 41 = .ok (.iload_n 3, 1) := by decide +kernel
theorem d_q_learnWords_42 : decode M_q_learnWords.2.1 42 = .ok (.iload_n 2, 1) := by decide +kernel
theorem d_q_learnWords_43 : decode M_q_learnWords.2.1 43 = .ok (.imul, 1) := by decide +kernel
theorem d_q_learnWords_44 : decode M_q_learnWords.2.1 44 = .ok (.iload_n 2, 1) := by decide +kernel
theorem d_q_learnWords_45 : decode M_q_learnWords.2.1 45 = .ok (.aload_n 0, 1) := by decide +kernel
theorem d_q_learnWords_46 : decode M_q_learnWords.2.1 46 = .ok (.getfield 33, 3) := by decide +kernel
theorem d_q_learnWords_49 : decode M_q_learnWords.2.1 49 = .ok (.getfield 260, 3) := by decide +kernel
theorem d_q_learnWords_52 : decode M_q_learnWords.2.1 52 = .ok (.iload_n 1, 1) := by decide +kernel
theorem d_q_learnWords_53 : decode M_q_learnWords.2.1 53 = .ok (.invokevirtual 242, 3) := by decide +kernel
theorem d_q_learnWords_56 : decode M_q_learnWords.2.1 56 = .ok (.aload_n 0, 1) := by decide +kernel
theorem d_q_learnWords_57 : decode M_q_learnWords.2.1 57 = .ok (.getfield 26, 3) := by decide +kernel
theorem d_q_learnWords_60 : decode M_q_learnWords.2.1 60 = .ok (.aload_n 0, 1) := by decide +kernel
theorem d_q_learnWords_61 : decode M_q_learnWords.2.1 61 = .ok (.getfield 33, 3) := by decide +kernel
theorem d_q_learnWords_64 : decode M_q_learnWords.2.1 64 = .ok (.getfield 125, 3) := by decide +kernel
theorem d_q_learnWords_67 : decode M_q_learnWords.2.1 67 = .ok (.iload_n 3, 1) := by decide +kernel
theorem d_q_learnWords_68 : decode M_q_learnWords.2.1 68 = .ok (.iconst 0, 1) := by decide +kernel
theorem d_q_learnWords_69 : decode M_q_learnWords.2.1 69 = .ok (.invokestatic 128, 3) := by decide +kernel
theorem d_q_learnWords_72 : decode M_q_learnWords.2.1 72 = .ok (.invokevirtual 245, 3) := by decide +kernel
theorem d_q_learnWords_75 : decode M_q_learnWords.2.1 75 = .ok (.goto 27, 3) := by decide +kernel
theorem d_q_learnWords_78 : decode M_q_learnWords.2.1 78 = .ok (.aload_n 0, 1) := by decide +kernel
theorem d_q_learnWords_79 : decode M_q_learnWords.2.1 79 = .ok (.getfield 33, 3) := by decide +kernel
theorem d_q_learnWords_82 : decode M_q_learnWords.2.1 82 = .ok (.iload_n 3, 1) := by decide +kernel
theorem d_q_learnWords_83 : decode M_q_learnWords.2.1 83 = .ok (.aload_n 0, 1) := by decide +kernel
theorem d_q_learnWords_84 : decode M_q_learnWords.2.1 84 = .ok (.getfield 26, 3) := by decide +kernel
theorem d_q_learnWords_87 : decode M_q_learnWords.2.1 87 = .ok (.iload_n 3, 1) := by decide +kernel
theorem d_q_learnWords_88 : decode M_q_learnWords.2.1 88 = .ok (.invokevirtual 263, 3) := by decide +kernel
theorem d_q_learnWords_91 : decode M_q_learnWords.2.1 91 = .ok (.aload_n 0, 1) := by decide +kernel
theorem d_q_learnWords_92 : decode M_q_learnWords.2.1 92 = .ok (.getfield 26, 3) := by decide +kernel
theorem d_q_learnWords_95 : decode M_q_learnWords.2.1 95 = .ok (.iload_n 3, 1) := by decide +kernel
theorem d_q_learnWords_96 : decode M_q_learnWords.2.1 96 = .ok (.invokevirtual 266, 3) := by decide +kernel
theorem d_q_learnWords_99 : decode M_q_learnWords.2.1 99 = .ok (.invokevirtual 269, 3) := by decide +kernel
theorem d_q_learnWords_102 : decode M_q_learnWords.2.1 102 = .ok (.iinc 3 1, 3) := by decide +kernel
theorem d_q_learnWords_105 : decode M_q_learnWords.2.1 105 = .ok (.goto (-92), 3) := by decide +kernel
theorem d_q_learnWords_108 : decode M_q_learnWords.2.1 108 = .ok (.return_, 1) := by decide +kernel
theorem d_q_partWidthOf_0 : decode M_q_partWidthOf.2.1 0 = .ok (.iload_n 0, 1) := by decide +kernel
theorem d_q_partWidthOf_1 : decode M_q_partWidthOf.2.1 1 = .ok (.ifCond .ne 5, 3) := by decide +kernel
theorem d_q_partWidthOf_4 : decode M_q_partWidthOf.2.1 4 = .ok (.iconst 2, 1) := by decide +kernel
theorem d_q_partWidthOf_5 : decode M_q_partWidthOf.2.1 5 = .ok (.ireturn, 1) := by decide +kernel
theorem d_q_partWidthOf_6 : decode M_q_partWidthOf.2.1 6 = .ok (.iload_n 0, 1) := by decide +kernel
theorem d_q_partWidthOf_7 : decode M_q_partWidthOf.2.1 7 = .ok (.iconst 1, 1) := by decide +kernel
theorem d_q_partWidthOf_8 : decode M_q_partWidthOf.2.1 8 = .ok (.if_icmp .ne 7, 3) := by decide +kernel
theorem d_q_partWidthOf_11 : decode M_q_partWidthOf.2.1 11 = .ok (.iconst 1, 1) := by decide +kernel
theorem d_q_partWidthOf_12 : decode M_q_partWidthOf.2.1 12 = .ok (.goto 4, 3) := by decide +kernel
theorem d_q_partWidthOf_15 : decode M_q_partWidthOf.2.1 15 = .ok (.iconst 0, 1) := by decide +kernel
theorem d_q_partWidthOf_16 : decode M_q_partWidthOf.2.1 16 = .ok (.ireturn, 1) := by decide +kernel
theorem d_q_partsOf_0 : decode M_q_partsOf.2.1 0 = .ok (.iload_n 0, 1) := by decide +kernel
theorem d_q_partsOf_1 : decode M_q_partsOf.2.1 1 = .ok (.ifCond .ne 5, 3) := by decide +kernel
theorem d_q_partsOf_4 : decode M_q_partsOf.2.1 4 = .ok (.iconst 2, 1) := by decide +kernel
theorem d_q_partsOf_5 : decode M_q_partsOf.2.1 5 = .ok (.ireturn, 1) := by decide +kernel
theorem d_q_partsOf_6 : decode M_q_partsOf.2.1 6 = .ok (.iload_n 0, 1) := by decide +kernel
theorem d_q_partsOf_7 : decode M_q_partsOf.2.1 7 = .ok (.iconst 1, 1) := by decide +kernel
theorem d_q_partsOf_8 : decode M_q_partsOf.2.1 8 = .ok (.if_icmp .ne 7, 3) := by decide +kernel
theorem d_q_partsOf_11 : decode M_q_partsOf.2.1 11 = .ok (.iconst 4, 1) := by decide +kernel
theorem d_q_partsOf_12 : decode M_q_partsOf.2.1 12 = .ok (.goto 4, 3) := by decide +kernel
theorem d_q_partsOf_15 : decode M_q_partsOf.2.1 15 = .ok (.iconst 0, 1) := by decide +kernel
