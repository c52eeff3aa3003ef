theorem d_m_probed_68 : decode M_m_probed.2.1 68 = .ok (.iload_n 1, 1) := by decide +kernel
theorem d_m_probed_69 : decode M_m_probed.2.1 69 = .ok (.if_icmp .ge 7, 3) := by decide +kernel
theorem d_m_probed_72 : decode M_m_probed.2.1 72 = .ok (.iconst 1, 1) := by decide +kernel
theorem d_m_probed_73 : decode M_m_probed.2.1 73 = .ok (.goto 4, 3) := by decide +kernel
theorem d_m_probed_76 : decode M_m_probed.2.1 76 = .ok (.iconst 0, 1) := by decide +kernel
theorem d_m_probed_77 : decode M_m_probed.2.1 77 = .ok (.iadd, 1) := by decide +kernel
theorem d_m_probed_78 : decode M_m_probed.2.1 78 = .ok (.istore_n 2, 1) := by decide +kernel
theorem d_m_probed_79 : decode M_m_probed.2.1 79 = .ok (.iinc 4 1, 3) := by decide +kernel
theorem d_m_probed_82 : decode M_m_probed.2.1 82 = .ok (.goto (-46), 3) := by decide +kernel
theorem d_m_probed_85 : decode M_m_probed.2.1 85 = .ok (.iload_n 2, 1) := by decide +kernel
theorem d_m_probed_86 : decode M_m_probed.2.1 86 = .ok (.aload_n 0, 1) := by decide +kernel
theorem d_m_probed_87 : decode M_m_probed.2.1 87 = .ok (.getfield 77, 3) := by decide +kernel
theorem d_m_probed_90 : decode M_m_probed.2.1 90 = .ok (.if_icmp .ge 7, 3) := by decide +kernel
theorem d_m_probed_93 : decode M_m_probed.2.1 93 = .ok (.iconst 1, 1) := by decide +kernel
theorem d_m_probed_94 : decode M_m_probed.2.1 94 = .ok (.goto 4, 3) := by decide +kernel
theorem d_m_probed_97 : decode M_m_probed.2.1 97 = .ok (.iconst 0, 1) := by decide +kernel
theorem d_m_probed_98 : decode M_m_probed.2.1 98 = .ok (.ireturn, 1) := by decide +kernel
theorem d_m_rank_0 : decode M_m_rank.2.1 0 = .ok (.iconst 0, 1) := by decide +kernel
theorem d_m_rank_1 : decode M_m_rank.2.1 1 = .ok (.istore_n 2, 1) := by decide +kernel
theorem d_m_rank_2 : decode M_m_rank.2.1 2 = .ok (.iconst 0, 1) := by decide +kernel
theorem d_m_rank_3 : decode M_m_rank.2.1 3 = .ok (.istore_n 3, 1) := by decide +kernel
theorem d_m_rank_4 : decode M_m_rank.2.1 4 = .ok (.iload_n 3, 1) := by decide +kernel
theorem d_m_rank_5 : decode M_m_rank.2.1 5 = .ok (.aload_n 0, 1) := by decide +kernel
theorem d_m_rank_6 : decode M_m_rank.2.1 6 = .ok (.getfield 185, 3) := by decide +kernel
theorem d_m_rank_9 : decode M_m_rank.2.1 9 = .ok (.if_icmp .ge 62, 3) := by decide +kernel
theorem d_m_rank_12 : decode M_m_rank.2.1 12 = .ok (.iload_n 2, 1) := by decide +kernel
theorem d_m_rank_13 : decode M_m_rank.2.1 13 = .ok (.aload_n 0, 1) := by decide +kernel
theorem d_m_rank_14 : decode M_m_rank.2.1 14 = .ok (.getfield 68, 3) := by decide +kernel
theorem d_m_rank_17 : decode M_m_rank.2.1 17 = .ok (.iload_n 3, 1) := by decide +kernel
theorem d_m_rank_18 : decode M_m_rank.2.1 18 = .ok (.iaload, 1) := by decide +kernel
theorem d_m_rank_19 : decode M_m_rank.2.1 19 = .ok (.aload_n 0, 1) := by decide +kernel
theorem d_m_rank_20 : decode M_m_rank.2.1 20 = .ok (.getfield 68, 3) := by decide +kernel
theorem d_m_rank_23 : decode M_m_rank.2.1 23 = .ok (.iload_n 1, 1) := by decide +kernel
theorem d_m_rank_24 : decode M_m_rank.2.1 24 = .ok (.iaload, 1) := by decide +kernel
theorem d_m_rank_25 : decode M_m_rank.2.1 25 = .ok (.if_icmp .lt 33, 3) := by decide +kernel
theorem d_m_rank_28 : decode M_m_rank.2.1 28 = .ok (.aload_n 0, 1) := by decide +kernel
theorem d_m_rank_29 : decode M_m_rank.2.1 29 = .ok (.getfield 68, 3) := by decide +kernel
theorem d_m_rank_32 : decode M_m_rank.2.1 32 = .ok (.iload_n 3, 1) := by decide +kernel
theorem d_m_rank_33 : decode M_m_rank.2.1 33 = .ok (.iaload, 1) := by decide +kernel
theorem d_m_rank_34 : decode M_m_rank.2.1 34 = .ok (.aload_n 0, 1) := by decide +kernel
theorem d_m_rank_35 : decode M_m_rank.2.1 35 = .ok (.getfield 68, 3) := by decide +kernel
theorem d_m_rank_38 : decode M_m_rank.2.1 38 = .ok (.iload_n 1, 1) := by decide +kernel
theorem d_m_rank_39 : decode M_m_rank.2.1 39 = .ok (.iaload, 1) := by decide +kernel
theorem d_m_rank_40 : decode M_m_rank.2.1 40 = .ok (.if_icmp .ne 22, 3) := by decide +kernel
theorem d_m_rank_43 : decode M_m_rank.2.1 43 = .ok (.aload_n 0, 1) := by decide +kernel
theorem d_m_rank_44 : decode M_m_rank.2.1 44 = .ok (.getfield 65, 3) := by decide +kernel
theorem d_m_rank_47 : decode M_m_rank.2.1 47 = .ok (.iload_n 3, 1) := by decide +kernel
theorem d_m_rank_48 : decode M_m_rank.2.1 48 = .ok (.iaload, 1) := by decide +kernel
theorem d_m_rank_49 : decode M_m_rank.2.1 49 = .ok (.aload_n 0, 1) := by decide +kernel
theorem d_m_rank_50 : decode M_m_rank.2.1 50 = .ok (.getfield 65, 3) := by decide +kernel
theorem d_m_rank_53 : decode M_m_rank.2.1 53 = .ok (.iload_n 1, 1) := by decide +kernel
theorem d_m_rank_54 : decode M_m_rank.2.1 54 = .ok (.iaload, 1) := by decide +kernel
theorem d_m_rank_55 : decode M_m_rank.2.1 55 = .ok (.if_icmp .ge 7, 3) := by decide +kernel
theorem d_m_rank_58 : decode M_m_rank.2.1 58 = .ok (.iconst 1, 1) := by decide +kernel
theorem d_m_rank_59 : decode M_m_rank.2.1 59 = .ok (.goto 4, 3) := by decide +kernel
theorem d_m_rank_62 : decode M_m_rank.2.1 62 = .ok (.iconst 0, 1) := by decide +kernel
theorem d_m_rank_63 : decode M_m_rank.2.1 63 = .ok (.iadd, 1) := by decide +kernel
theorem d_m_rank_64 : decode M_m_rank.2.1 64 = .ok (.istore_n 2, 1) := by decide +kernel
theorem d_m_rank_65 : decode M_m_rank.2.1 65 = .ok (.iinc 3 1, 3) := by decide +kernel
theorem d_m_rank_68 : decode M_m_rank.2.1 68 = .ok (.goto (-64), 3) := by decide +kernel
theorem d_m_rank_71 : decode M_m_rank.2.1 71 = .ok (.iload_n 2, 1) := by decide +kernel
theorem d_m_rank_72 : decode M_m_rank.2.1 72 = .ok (.ireturn, 1) := by decide +kernel
theorem d_m_exactRank_0 : decode M_m_exactRank.2.1 0 = .ok (.iconst 0, 1) := by decide +kernel
theorem d_m_exactRank_1 : decode M_m_exactRank.2.1 1 = .ok (.istore_n 2, 1) := by decide +kernel
theorem d_m_exactRank_2 : decode M_m_exactRank.2.1 2 = .ok (.iconst 0, 1) := by decide +kernel
theorem d_m_exactRank_3 : decode M_m_exactRank.2.1 3 = .ok (.istore_n 3, 1) := by decide +kernel
theorem d_m_exactRank_4 : decode M_m_exactRank.2.1 4 = .ok (.iload_n 3, 1) := by decide +kernel
theorem d_m_exactRank_5 : decode M_m_exactRank.2.1 5 = .ok (.aload_n 0, 1) := by decide +kernel
theorem d_m_exactRank_6 : decode M_m_exactRank.2.1 6 = .ok (.getfield 185, 3) := by decide +kernel
theorem d_m_exactRank_9 : decode M_m_exactRank.2.1 9 = .ok (.if_icmp .ge 71, 3) := by decide +kernel
theorem d_m_exactRank_12 : decode M_m_exactRank.2.1 12 = .ok (.iload_n 2, 1) := by decide +kernel
theorem d_m_exactRank_13 : decode M_m_exactRank.2.1 13 = .ok (.aload_n 0, 1) := by decide +kernel
theorem d_m_exactRank_14 : decode M_m_exactRank.2.1 14 = .ok (.getfield 74, 3) := by decide +kernel
theorem d_m_exactRank_17 : decode M_m_exactRank.2.1 17 = .ok (.iload_n 3, 1) := by decide +kernel
theorem d_m_exactRank_18 : decode M_m_exactRank.2.1 18 = .ok (.baload, 1) := by decide +kernel
theorem d_m_exactRank_19 : decode M_m_exactRank.2.1 19 = .ok (.ifCond .eq 52, 3) := by decide +kernel
theorem d_m_exactRank_22 : decode M_m_exactRank.2.1 22 = .ok (.aload_n 0, 1) := by decide +kernel
theorem d_m_exactRank_23 : decode M_m_exactRank.2.1 23 = .ok (.getfield 71, 3) := by decide +kernel
theorem d_m_exactRank_26 : decode M_m_exactRank.2.1 26 = .ok (.iload_n 3, 1) := by decide +kernel
theorem d_m_exactRank_27 : decode M_m_exactRank.2.1 27 = .ok (.iaload, 1) := by decide +kernel
theorem d_m_exactRank_28 : decode M_m_exactRank.2.1 28 = .ok (.aload_n 0, 1) := by decide +kernel
theorem d_m_exactRank_29 : decode M_m_exactRank.2.1 29 = .ok (.getfield 71, 3) := by decide +kernel
theorem d_m_exactRank_32 : decode M_m_exactRank.2.1 32 = .ok (.iload_n 1, 1) := by decide +kernel
theorem d_m_exactRank_33 : decode M_m_exactRank.2.1 33 = .ok (.iaload, 1) := by decide +kernel
theorem d_m_exactRank_34 : decode M_m_exactRank.2.1 34 = .ok (.if_icmp .lt 33, 3) := by decide +kernel
theorem d_m_exactRank_37 : decode M_m_exactRank.2.1 37 = .ok (.aload_n 0, 1) := by decide +kernel
theorem d_m_exactRank_38 : decode M_m_exactRank.2.1 38 = .ok (.getfield 71, 3) := by decide +kernel
theorem d_m_exactRank_41 : decode M_m_exactRank.2.1 41 = .ok (.iload_n 3, 1) := by decide +kernel
theorem d_m_exactRank_42 : decode M_m_exactRank.2.1 42 = .ok (.iaload, 1) := by decide +kernel
theorem d_m_exactRank_43 : decode M_m_exactRank.2.1 43 = .ok (.aload_n 0, 1) := by decide +kernel
theorem d_m_exactRank_44 : decode M_m_exactRank.2.1 44 = .ok (.getfield 71, 3) := by decide +kernel
theorem d_m_exactRank_47 : decode M_m_exactRank.2.1 47 = .ok (.iload_n 1, 1) := by decide +kernel
theorem d_m_exactRank_48 : decode M_m_exactRank.2.1 48 = .ok (.iaload, 1) := by decide +kernel
theorem d_m_exactRank_49 : decode M_m_exactRank.2.1 49 = .ok (.if_icmp .ne 22, 3) := by decide +kernel
theorem d_m_exactRank_52 : decode M_m_exactRank.2.1 52 = .ok (.aload_n 0, 1) := by decide +kernel
theorem d_m_exactRank_53 : decode M_m_exactRank.2.1 53 = .ok (.getfield 65, 3) := by decide +kernel
theorem d_m_exactRank_56 : decode M_m_exactRank.2.1 56 = .ok (.iload_n 3, 1) := by decide +kernel
theorem d_m_exactRank_57 : decode M_m_exactRank.2.1 57 = .ok (.iaload, 1) := by decide +kernel
theorem d_m_exactRank_58 : decode M_m_exactRank.2.1 58 = .ok (.aload_n 0, 1) := by decide +kernel
theorem d_m_exactRank_59 : decode M_m_exactRank.2.1 59 = .ok (.getfield 65, 3) := by decide +kernel
theorem d_m_exactRank_62 : decode M_m_exactRank.2.1 62 = .ok (.iload_n 1, 1) := by decide +kernel
theorem d_m_exactRank_63 : decode M_m_exactRank.2.1 63 = .ok (.iaload, 1) := by decide +kernel
theorem d_m_exactRank_64 : decode M_m_exactRank.2.1 64 = .ok (.if_icmp .ge 7, 3) := by decide +kernel
theorem d_m_exactRank_67 : decode M_m_exactRank.2.1 67 = .ok (.iconst 1, 1) := by decide +kernel
theorem d_m_exactRank_68 : decode M_m_exactRank.2.1 68 = .ok (.goto 4, 3) := by decide +kernel
theorem d_m_exactRank_71 : decode M_m_exactRank.2.1 71 = .ok (.iconst 0, 1) := by decide +kernel
theorem d_m_exactRank_72 : decode M_m_exactRank.2.1 72 = .ok (.iadd, 1) := by decide +kernel
theorem d_m_exactRank_73 : decode M_m_exactRank.2.1 73 = .ok (.istore_n 2, 1) := by decide +kernel
theorem d_m_exactRank_74 : decode M_m_exactRank.2.1 74 = .ok (.iinc 3 1, 3) := by decide +kernel
theorem d_m_exactRank_77 : decode M_m_exactRank.2.1 77 = .ok (.goto (-73), 3) := by decide +kernel
theorem d_m_exactRank_80 : decode M_m_exactRank.2.1 80 = .ok (.iload_n 2, 1) := by decide +kernel
theorem d_m_exactRank_81 : decode M_m_exactRank.2.1 81 = .ok (.ireturn, 1) := by decide +kernel
theorem d_m_hit_0 : decode M_m_hit.2.1 0 = .ok (.iload_n 1, 1) := by decide +kernel
theorem d_m_hit_1 : decode M_m_hit.2.1 1 = .ok (.iconst 0, 1) := by decide +kernel
theorem d_m_hit_2 : decode M_m_hit.2.1 2 = .ok (.aload_n 0, 1) := by decide +kernel
theorem d_m_hit_3 : decode M_m_hit.2.1 3 = .ok (.getfield 191, 3) := by decide +kernel
theorem d_m_hit_6 : decode M_m_hit.2.1 6 = .ok (.iconst 1, 1) := by decide +kernel
theorem d_m_hit_7 : decode M_m_hit.2.1 7 = .ok (.isub, 1) := by decide +kernel
theorem d_m_hit_8 : decode M_m_hit.2.1 8 = .ok (.invokestatic 85, 3) := by decide +kernel
theorem d_m_hit_11 : decode M_m_hit.2.1 11 = .ok (.ifCond .eq 12, 3) := by decide +kernel
theorem d_m_hit_14 : decode M_m_hit.2.1 14 = .ok (.aload_n 0, 1) := by decide +kernel
theorem d_m_hit_15 : decode M_m_hit.2.1 15 = .ok (.getfield 29, 3) := by decide +kernel
theorem d_m_hit_18 : decode M_m_hit.2.1 18 = .ok (.iload_n 1, 1) := by decide +kernel
theorem d_m_hit_19 : decode M_m_hit.2.1 19 = .ok (.iaload, 1) := by decide +kernel
theorem d_m_hit_20 : decode M_m_hit.2.1 20 = .ok (.goto 4, 3) := by decide +kernel
theorem d_m_hit_23 : decode M_m_hit.2.1 23 = .ok (.iconst (-1), 1) := by decide +kernel
theorem d_m_hit_24 : decode M_m_hit.2.1 24 = .ok (.ireturn, 1) := by decide +kernel
theorem d_m_far_0 : decode M_m_far.2.1 0 = .ok (.iload_n 1, 1) := by decide +kernel
theorem d_m_far_1 : decode M_m_far.2.1 1 = .ok (.iconst 0, 1) := by decide +kernel
theorem d_m_far_2 : decode M_m_far.2.1 2 = .ok (.aload_n 0, 1) := by decide +kernel
theorem d_m_far_3 : decode M_m_far.2.1 3 = .ok (.getfield 191, 3) := by decide +kernel
theorem d_m_far_6 : decode M_m_far.2.1 6 = .ok (.iconst 1, 1) := by decide +kernel
theorem d_m_far_7 : decode M_m_far.2.1 7 = .ok (.isub, 1) := by decide +kernel
theorem d_m_far_8 : decode M_m_far.2.1 8 = .ok (.invokestatic 85, 3) := by decide +kernel
theorem d_m_far_11 : decode M_m_far.2.1 11 = .ok (.ifCond .eq 12, 3) := by decide +kernel
theorem d_m_far_14 : decode M_m_far.2.1 14 = .ok (.aload_n 0, 1) := by decide +kernel
theorem d_m_far_15 : decode M_m_far.2.1 15 = .ok (.getfield 32, 3) := by decide +kernel
theorem d_m_far_18 : decode M_m_far.2.1 18 = .ok (.iload_n 1, 1) := by decide +kernel
theorem d_m_far_19 : decode M_m_far.2.1 19 = .ok (.iaload, 1) := by decide +kernel
theorem d_m_far_20 : decode M_m_far.2.1 20 = .ok (.goto 4, 3) := by decide +kernel
theorem d_m_far_23 : decode M_m_far.2.1 23 = .ok (.iconst (-1), 1) := by decide +kernel
theorem d_m_far_24 : decode M_m_far.2.1 24 = .ok (.ireturn, 1) := by decide +kernel
theorem d_m_scanned_0 : decode M_m_scanned.2.1 0 = .ok (.aload_n 0, 1) := by decide +kernel
theorem d_m_scanned_1 : decode M_m_scanned.2.1 1 = .ok (.getfield 185, 3) := by decide +kernel
theorem d_m_scanned_4 : decode M_m_scanned.2.1 4 = .ok (.ireturn, 1) := by decide +kernel
theorem d_m_save_0 : decode M_m_save.2.1 0 = .ok (.aload_n 0, 1) := by decide +kernel
theorem d_m_save_1 : decode M_m_save.2.1 1 = .ok (.getfield 92, 3) := by decide +kernel
theorem d_m_save_4 : decode M_m_save.2.1 4 = .ok (.ifCond .ne 5, 3) := by decide +kernel
theorem d_m_save_7 : decode M_m_save.2.1 7 = .ok (.iconst (-1), 1) := by decide +kernel
theorem d_m_save_8 : decode M_m_save.2.1 8 = .ok (.ireturn, 1) := by decide +kernel
theorem d_m_save_9 : decode M_m_save.2.1 9 = .ok (.aload_n 0, 1) := by decide +kernel
theorem d_m_save_10 : decode M_m_save.2.1 10 = .ok (.iconst 0, 1) := by decide +kernel
theorem d_m_save_11 : decode M_m_save.2.1 11 = .ok (.putfield 203, 3) := by decide +kernel
theorem d_m_save_14 : decode M_m_save.2.1 14 = .ok (.aload_n 0, 1) := by decide +kernel
theorem d_m_save_15 : decode M_m_save.2.1 15 = .ok (.bipush 86, 2) := by decide +kernel
theorem d_m_save_17 : decode M_m_save.2.1 17 = .ok (.invokevirtual 206, 3) := by decide +kernel
theorem d_m_save_20 : decode M_m_save.2.1 20 = .ok (.aload_n 0, 1) := by decide +kernel
theorem d_m_save_21 : decode M_m_save.2.1 21 = .ok (.iconst 1, 1) := by decide +kernel
theorem d_m_save_22 : decode M_m_save.2.1 22 = .ok (.invokevirtual 206, 3) := by decide +kernel
theorem d_m_save_25 : decode M_m_save.2.1 25 = .ok (.aload_n 0, 1) := by decide +kernel
theorem d_m_save_26 : decode M_m_save.2.1 26 = .ok (.aload_n 0, 1) := by decide +kernel
theorem d_m_save_27 : decode M_m_save.2.1 27 = .ok (.getfield 128, 3) := by decide +kernel
theorem d_m_save_30 : decode M_m_save.2.1 30 = .ok (.invokevirtual 206, 3) := by decide +kernel
theorem d_m_save_33 : decode M_m_save.2.1 33 = .ok (.aload_n 0, 1) := by decide +kernel
theorem d_m_save_34 : decode M_m_save.2.1 34 = .ok (.aload_n 0, 1) := by decide +kernel
theorem d_m_save_35 : decode M_m_save.2.1 35 = .ok (.getfield 134, 3) := by decide +kernel
theorem d_m_save_38 : decode M_m_save.2.1 38 = .ok (.invokevirtual 206, 3) := by decide +kernel
theorem d_m_save_41 : decode M_m_save.2.1 41 = .ok (.aload_n 0, 1) := by decide +kernel
theorem d_m_save_42 : decode M_m_save.2.1 42 = .ok (.aload_n 0, 1) := by decide +kernel
theorem d_m_save_43 : decode M_m_save.2.1 43 = .ok (.getfield 137, 3) := by decide +kernel
theorem d_m_save_46 : decode M_m_save.2.1 46 = .ok (.invokevirtual 206, 3) := by decide +kernel
theorem d_m_save_49 : decode M_m_save.2.1 49 = .ok (.aload_n 0, 1) := by decide +kernel
theorem d_m_save_50 : decode M_m_save.2.1 50 = .ok (.aload_n 0, 1) := by decide +kernel
theorem d_m_save_51 : decode M_m_save.2.1 51 = .ok (.getfield 131, 3) := by decide +kernel
theorem d_m_save_54 : decode M_m_save.2.1 54 = .ok (.invokevirtual 206, 3) := by decide +kernel
theorem d_m_save_57 : decode M_m_save.2.1 57 = .ok (.iconst 0, 1) := by decide +kernel
theorem d_m_save_58 : decode M_m_save.2.1 58 = .ok (.istore_n 1, 1) := by decide +kernel
theorem d_m_save_59 : decode M_m_save.2.1 59 = .ok (.iload_n 1, 1) := by decide +kernel
theorem d_m_save_60 : decode M_m_save.2.1 60 = .ok (.iconst 4, 1) := by decide +kernel
theorem d_m_save_61 : decode M_m_save.2.1 61 = .ok (.if_icmp .ge 21, 3) := by decide +kernel
theorem d_m_save_64 : decode M_m_save.2.1 64 = .ok (.aload_n 0, 1) := by decide +kernel
theorem d_m_save_65 : decode M_m_save.2.1 65 = .ok (.aload_n 0, 1) := by decide +kernel
theorem d_m_save_66 : decode M_m_save.2.1 66 = .ok (.getfield 7, 3) := by decide +kernel
theorem d_m_save_69 : decode M_m_save.2.1 69 = .ok (.iload_n 1, 1) := by decide +kernel
theorem d_m_save_70 : decode M_m_save.2.1 70 = .ok (.iaload, 1) := by decide +kernel
theorem d_m_save_71 : decode M_m_save.2.1 71 = .ok (.iconst 4, 1) := by decide +kernel
theorem d_m_save_72 : decode M_m_save.2.1 72 = .ok (.iadd, 1) := by decide +kernel
theorem d_m_save_73 : decode M_m_save.2.1 73 = .ok (.invokevirtual 206, 3) := by decide +kernel
theorem d_m_save_76 : decode M_m_save.2.1 76 = .ok (.iinc 1 1, 3) := by decide +kernel
theorem d_m_save_79 : decode M_m_save.2.1 79 = .ok (.goto (-20), 3) := by decide +kernel
theorem d_m_save_82 : decode M_m_save.2.1 82 = .ok (.iconst 0, 1) := by decide +kernel
theorem d_m_save_83 : decode M_m_save.2.1 83 = .ok (.istore_n 1, 1) := by decide +kernel
theorem d_m_save_84 : decode M_m_save.2.1 84 = .ok (.iload_n 1, 1) := by decide +kernel
theorem d_m_save_85 : decode M_m_save.2.1 85 = .ok (.iconst 4, 1) := by decide +kernel
theorem d_m_save_86 : decode M_m_save.2.1 86 = .ok (.aload_n 0, 1) := by decide +kernel
theorem d_m_save_87 : decode M_m_save.2.1 87 = .ok (.getfield 134, 3) := by decide +kernel
theorem d_m_save_90 : decode M_m_save.2.1 90 = .ok (.imul, 1) := by decide +kernel
theorem d_m_save_91 : decode M_m_save.2.1 91 = .ok (.if_icmp .ge 23, 3) := by decide +kernel
theorem d_m_save_94 : decode M_m_save.2.1 94 = .ok (.aload_n 0, 1) := by decide +kernel
theorem d_m_save_95 : decode M_m_save.2.1 95 = .ok (.aload_n 0, 1) := by decide +kernel
theorem d_m_save_96 : decode M_m_save.2.1 96 = .ok (.getfield 16, 3) := by decide +kernel
theorem d_m_save_99 : decode M_m_save.2.1 99 = .ok (.iload_n 1, 1) := by decide +kernel
theorem d_m_save_100 : decode M_m_save.2.1 100 = .ok (.iaload, 1) := by decide +kernel
theorem d_m_save_101 : decode M_m_save.2.1 101 = .ok (.sipush 300, 3) := by decide +kernel
theorem d_m_save_104 : decode M_m_save.2.1 104 = .ok (.iadd, 1) := by decide +kernel
theorem d_m_save_105 : decode M_m_save.2.1 105 = .ok (.invokevirtual 209, 3) := by decide +kernel
theorem d_m_save_108 : decode M_m_save.2.1 108 = .ok (.iinc 1 1, 3) := by decide +kernel
theorem d_m_save_111 : decode M_m_save.2.1 111 = .ok (.goto (-27), 3) := by decide +kernel
theorem d_m_save_114 : decode M_m_save.2.1 114 = .ok (.iconst 0, 1) := by decide +kernel
theorem d_m_save_115 : decode M_m_save.2.1 115 = .ok (.istore_n 1, 1) := by decide +kernel
theorem d_m_save_116 : decode M_m_save.2.1 116 = .ok (.iload_n 1, 1) := by decide +kernel
theorem d_m_save_117 : decode M_m_save.2.1 117 = .ok (.aload_n 0, 1) := by decide +kernel
theorem d_m_save_118 : decode M_m_save.2.1 118 = .ok (.invokevirtual 144, 3) := by decide +kernel
theorem d_m_save_121 : decode M_m_save.2.1 121 = .ok (.aload_n 0, 1) := by decide +kernel
theorem d_m_save_122 : decode M_m_save.2.1 122 = .ok (.getfield 137, 3) := by decide +kernel
theorem d_m_save_125 : decode M_m_save.2.1 125 = .ok (.imul, 1) := by decide +kernel
theorem d_m_save_126 : decode M_m_save.2.1 126 = .ok (.aload_n 0, 1) := by decide +kernel
theorem d_m_save_127 : decode M_m_save.2.1 127 = .ok (.invokevirtual 164, 3) := by decide +kernel
theorem d_m_save_130 : decode M_m_save.2.1 130 = .ok (.imul, 1) := by decide +kernel
theorem d_m_save_131 : decode M_m_save.2.1 131 = .ok (.if_icmp .ge 66, 3) := by decide +kernel
theorem d_m_save_134 : decode M_m_save.2.1 134 = .ok (.iload_n 1, 1) := by decide +kernel
theorem d_m_save_135 : decode M_m_save.2.1 135 = .ok (.aload_n 0, 1) := by decide +kernel
theorem d_m_save_136 : decode M_m_save.2.1 136 = .ok (.getfield 137, 3) := by decide +kernel
theorem d_m_save_139 : decode M_m_save.2.1 139 = .ok (.aload_n 0, 1) := by decide +kernel
theorem d_m_save_140 : decode M_m_save.2.1 140 = .ok (.invokevirtual 164, 3) := by decide +kernel
theorem d_m_save_143 : decode M_m_save.2.1 143 = .ok (.imul, 1) := by decide +kernel
theorem d_m_save_144 : decode M_m_save.2.1 144 = .ok (.idiv, 1) := by decide +kernel
theorem d_m_save_145 : decode M_m_save.2.1 145 = .ok (.istore_n 2, 1) := by decide +kernel
theorem d_m_save_146 : decode M_m_save.2.1 146 = .ok (.iload_n 1, 1) := by decide +kernel
theorem d_m_save_147 : decode M_m_save.2.1 147 = .ok (.aload_n 0, 1) := by decide +kernel
theorem d_m_save_148 : decode M_m_save.2.1 148 = .ok (.getfield 137, 3) := by decide +kernel
theorem d_m_save_151 : decode M_m_save.2.1 151 = .ok (.aload_n 0, 1) := by decide +kernel
theorem d_m_save_152 : decode M_m_save.2.1 152 = .ok (.invokevirtual 164, 3) := by decide +kernel
theorem d_m_save_155 : decode M_m_save.2.1 155 = .ok (.imul, 1) := by decide +kernel
theorem d_m_save_156 : decode M_m_save.2.1 156 = .ok (.irem, 1) := by decide +kernel
theorem d_m_save_157 : decode M_m_save.2.1 157 = .ok (.istore_n 3, 1) := by decide +kernel
theorem d_m_save_158 : decode M_m_save.2.1 158 = .ok (.aload_n 0, 1) := by decide +kernel
theorem d_m_save_159 : decode M_m_save.2.1 159 = .ok (.aload_n 0, 1) := by decide +kernel
theorem d_m_save_160 : decode M_m_save.2.1 160 = .ok (.getfield 19, 3) := by decide +kernel
theorem d_m_save_163 : decode M_m_save.2.1 163 = .ok (.bipush 8, 2) := by decide +kernel
theorem d_m_save_165 : decode M_m_save.2.1 165 = .ok (.iload_n 2, 1) := by decide +kernel
theorem d_m_save_166 : decode M_m_save.2.1 166 = .ok (.imul, 1) := by decide +kernel
theorem d_m_save_167 : decode M_m_save.2.1 167 = .ok (.iconst 2, 1) := by decide +kernel
theorem d_m_save_168 : decode M_m_save.2.1 168 = .ok (.iload_n 3, 1) := by decide +kernel
theorem d_m_save_169 : decode M_m_save.2.1 169 = .ok (.aload_n 0, 1) := by decide +kernel
theorem d_m_save_170 : decode M_m_save.2.1 170 = .ok (.invokevirtual 164, 3) := by decide +kernel
theorem d_m_save_173 : decode M_m_save.2.1 173 = .ok (.idiv, 1) := by decide +kernel
theorem d_m_save_174 : decode M_m_save.2.1 174 = .ok (.imul, 1) := by decide +kernel
theorem d_m_save_175 : decode M_m_save.2.1 175 = .ok (.iadd, 1) := by decide +kernel
theorem d_m_save_176 : decode M_m_save.2.1 176 = .ok (.iload_n 3, 1) := by decide +kernel
theorem d_m_save_177 : decode M_m_save.2.1 177 = .ok (.aload_n 0, 1) := by decide +kernel
theorem d_m_save_178 : decode M_m_save.2.1 178 = .ok (.invokevirtual 164, 3) := by decide +kernel
theorem d_m_save_181 : decode M_m_save.2.1 181 = .ok (.irem, 1) := by decide +kernel
theorem d_m_save_182 : decode M_m_save.2.1 182 = .ok (.iadd, 1) := by decide +kernel
theorem d_m_save_183 : decode M_m_save.2.1 183 = .ok (.iaload, 1) := by decide +kernel
theorem d_m_save_184 : decode M_m_save.2.1 184 = .ok (.sipush 300, 3) := by decide +kernel
theorem d_m_save_187 : decode M_m_save.2.1 187 = .ok (.iadd, 1) := by decide +kernel
theorem d_m_save_188 : decode M_m_save.2.1 188 = .ok (.invokevirtual 209, 3) := by decide +kernel
theorem d_m_save_191 : decode M_m_save.2.1 191 = .ok (.iinc 1 1, 3) := by decide +kernel
theorem d_m_save_194 : decode M_m_save.2.1 194 = .ok (.goto (-78), 3) := by decide +kernel
theorem d_m_save_197 : decode M_m_save.2.1 197 = .ok (.iconst 0, 1) := by decide +kernel
theorem d_m_save_198 : decode M_m_save.2.1 198 = .ok (.istore_n 1, 1) := by decide +kernel
theorem d_m_save_199 : decode M_m_save.2.1 199 = .ok (.iload_n 1, 1) := by decide +kernel
theorem d_m_save_200 : decode M_m_save.2.1 200 = .ok (.sipush 1000, 3) := by decide +kernel
theorem d_m_save_203 : decode M_m_save.2.1 203 = .ok (.if_icmp .ge 53, 3) := by decide +kernel
theorem d_m_save_206 : decode M_m_save.2.1 206 = .ok (.aload_n 0, 1) := by decide +kernel
theorem d_m_save_207 : decode M_m_save.2.1 207 = .ok (.getfield 22, 3) := by decide +kernel
theorem d_m_save_210 : decode M_m_save.2.1 210 = .ok (.iload_n 1, 1) := by decide +kernel
theorem d_m_save_211 : decode M_m_save.2.1 211 = .ok (.baload, 1) := by decide +kernel
theorem d_m_save_212 : decode M_m_save.2.1 212 = .ok (.ifCond .eq 38, 3) := by decide +kernel
theorem d_m_save_215 : decode M_m_save.2.1 215 = .ok (.aload_n 0, 1) := by decide +kernel
theorem d_m_save_216 : decode M_m_save.2.1 216 = .ok (.iload_n 1, 1) := by decide +kernel
theorem d_m_save_217 : decode M_m_save.2.1 217 = .ok (.invokevirtual 209, 3) := by decide +kernel
theorem d_m_save_220 : decode M_m_save.2.1 220 = .ok (.iconst 0, 1) := by decide +kernel
theorem d_m_save_221 : decode M_m_save.2.1 221 = .ok (.istore_n 2, 1) := by decide +kernel
theorem d_m_save_222 : decode M_m_save.2.1 222 = .ok (.iload_n 2, 1) := by decide +kernel
theorem d_m_save_223 : decode M_m_save.2.1 223 = .ok (.iconst 4, 1) := by decide +kernel
theorem d_m_save_224 : decode M_m_save.2.1 224 = .ok (.if_icmp .ge 26, 3) := by decide +kernel
theorem d_m_save_227 : decode M_m_save.2.1 227 = .ok (.aload_n 0, 1) := by decide +kernel
theorem d_m_save_228 : decode M_m_save.2.1 228 = .ok (.aload_n 0, 1) := by decide +kernel
theorem d_m_save_229 : decode M_m_save.2.1 229 = .ok (.getfield 26, 3) := by decide +kernel
theorem d_m_save_232 : decode M_m_save.2.1 232 = .ok (.iconst 4, 1) := by decide +kernel
theorem d_m_save_233 : decode M_m_save.2.1 233 = .ok (.iload_n 1, 1) := by decide +kernel
theorem d_m_save_234 : decode M_m_save.2.1 234 = .ok (.imul, 1) := by decide +kernel
theorem d_m_save_235 : decode M_m_save.2.1 235 = .ok (.iload_n 2, 1) := by decide +kernel
theorem d_m_save_236 : decode M_m_save.2.1 236 = .ok (.iadd, 1) := by decide +kernel
theorem d_m_save_237 : decode M_m_save.2.1 237 = .ok (.iaload, 1) := by decide +kernel
theorem d_m_save_238 : decode M_m_save.2.1 238 = .ok (.bipush 100, 2) := by decide +kernel
theorem d_m_save_240 : decode M_m_save.2.1 240 = .ok (.iadd, 1) := by decide +kernel
theorem d_m_save_241 : decode M_m_save.2.1 241 = .ok (.invokevirtual 206, 3) := by decide +kernel
theorem d_m_save_244 : decode M_m_save.2.1 244 = .ok (.iinc 2 1, 3) := by decide +kernel
theorem d_m_save_247 : decode M_m_save.2.1 247 = .ok (.goto (-25), 3) := by decide +kernel
theorem d_m_save_250 : decode M_m_save.2.1 250 = .ok (.iinc 1 1, 3) := by decide +kernel
theorem d_m_save_253 : decode M_m_save.2.1 253 = .ok (.goto (-54), 3) := by decide +kernel
theorem d_m_save_256 : decode M_m_save.2.1 256 = .ok (.aload_n 0, 1) := by decide +kernel
theorem d_m_save_257 : decode M_m_save.2.1 257 = .ok (.aload_n 0, 1) := by decide +kernel
theorem d_m_save_258 : decode M_m_save.2.1 258 = .ok (.getfield 203, 3) := by decide +kernel
theorem d_m_save_261 : decode M_m_save.2.1 261 = .ok (.invokevirtual 212, 3) := by decide +kernel
theorem d_m_save_264 : decode M_m_save.2.1 264 = .ok (.istore_n 1, 1) := by decide +kernel
theorem d_m_save_265 : decode M_m_save.2.1 265 = .ok (.aload_n 0, 1) := by decide +kernel
theorem d_m_save_266 : decode M_m_save.2.1 266 = .ok (.iload_n 1, 1) := by decide +kernel
theorem d_m_save_267 : decode M_m_save.2.1 267 = .ok (.invokevirtual 206, 3) := by decide +kernel
theorem d_m_save_270 : decode M_m_save.2.1 270 = .ok (.aload_n 0, 1) := by decide +kernel
theorem d_m_save_271 : decode M_m_save.2.1 271 = .ok (.getfield 203, 3) := by decide +kernel
theorem d_m_save_274 : decode M_m_save.2.1 274 = .ok (.ireturn, 1) := by decide +kernel
theorem d_m_put_0 : decode M_m_put.2.1 0 = .ok (.aload_n 0, 1) := by decide +kernel
theorem d_m_put_1 : decode M_m_put.2.1 1 = .ok (.getfield 35, 3) := by decide +kernel
theorem d_m_put_4 : decode M_m_put.2.1 4 = .ok (.aload_n 0, 1) := by decide +kernel
theorem d_m_put_5 : decode M_m_put.2.1 5 = .ok (.getfield 203, 3) := by decide +kernel
theorem d_m_put_8 : decode M_m_put.2.1 8 = .ok (.iload_n 1, 1) := by decide +kernel
theorem d_m_put_9 : decode M_m_put.2.1 9 = .ok (.iastore, 1) := by decide +kernel
theorem d_m_put_10 : decode M_m_put.2.1 10 = .ok (.aload_n 0, 1) := by decide +kernel
theorem d_m_put_11 : decode M_m_put.2.1 11 = .ok (.dup, 1) := by decide +kernel
theorem d_m_put_12 : decode M_m_put.2.1 12 = .ok (.getfield 203, 3) := by decide +kernel
theorem d_m_put_15 : decode M_m_put.2.1 15 = .ok (.iconst 1, 1) := by decide +kernel
theorem d_m_put_16 : decode M_m_put.2.1 16 = .ok (.iadd, 1) := by decide +kernel
theorem d_m_put_17 : decode M_m_put.2.1 17 = .ok (.putfield 203, 3) := by decide +kernel
theorem d_m_put_20 : decode M_m_put.2.1 20 = .ok (.return_, 1) := by decide +kernel
theorem d_m_putTwo_0 : decode M_m_putTwo.2.1 0 = .ok (.aload_n 0, 1) := by decide +kernel
theorem d_m_putTwo_1 : decode M_m_putTwo.2.1 1 = .ok (.iload_n 1, 1) := by decide +kernel
theorem d_m_putTwo_2 : decode M_m_putTwo.2.1 2 = .ok (.sipush 256, 3) := by decide +kernel
theorem d_m_putTwo_5 : decode M_m_putTwo.2.1 5 = .ok (.idiv, 1) := by decide +kernel
theorem d_m_putTwo_6 : decode M_m_putTwo.2.1 6 = .ok (.invokevirtual 206, 3) := by decide +kernel
theorem d_m_putTwo_9 : decode M_m_putTwo.2.1 9 = .ok (.aload_n 0, 1) := by decide +kernel
theorem d_m_putTwo_10 : decode M_m_putTwo.2.1 10 = .ok (.iload_n 1, 1) := by decide +kernel
theorem d_m_putTwo_11 : decode M_m_putTwo.2.1 11 = .ok (.sipush 256, 3) := by decide +kernel
theorem d_m_putTwo_14 : decode M_m_putTwo.2.1 14 = .ok (.irem, 1) := by decide +kernel
theorem d_m_putTwo_15 : decode M_m_putTwo.2.1 15 = .ok (.invokevirtual 206, 3) := by decide +kernel
theorem d_m_putTwo_18 : decode M_m_putTwo.2.1 18 = .ok (.return_, 1) := by decide +kernel
theorem d_m_sum_0 : decode M_m_sum.2.1 0 = .ok (.iconst 0, 1) := by decide +kernel
theorem d_m_sum_1 : decode M_m_sum.2.1 1 = .ok (.istore_n 2, 1) := by decide +kernel
theorem d_m_sum_2 : decode M_m_sum.2.1 2 = .ok (.iconst 0, 1) := by decide +kernel
theorem d_m_sum_3 : decode M_m_sum.2.1 3 = .ok (.istore_n 3, 1) := by decide +kernel
theorem d_m_sum_4 : decode M_m_sum.2.1 4 = .ok (.iload_n 3, 1) := by decide +kernel
theorem d_m_sum_5 : decode M_m_sum.2.1 5 = .ok (.iload_n 1, 1) := by decide +kernel
theorem d_m_sum_6 : decode M_m_sum.2.1 6 = .ok (.if_icmp .ge 26, 3) := by decide +kernel
theorem d_m_sum_9 : decode M_m_sum.2.1 9 = .ok (.iload_n 2, 1) := by decide +kernel
theorem d_m_sum_10 : decode M_m_sum.2.1 10 = .ok (.aload_n 0, 1) := by decide +kernel
theorem d_m_sum_11 : decode M_m_sum.2.1 11 = .ok (.getfield 35, 3) := by decide +kernel
theorem d_m_sum_14 : decode M_m_sum.2.1 14 = .ok (.iload_n 3, 1) := by decide +kernel
theorem d_m_sum_15 : decode M_m_sum.2.1 15 = .ok (.iaload, 1) := by decide +kernel
theorem d_m_sum_16 : decode M_m_sum.2.1 16 = .ok (.iload_n 3, 1) := by decide +kernel
theorem d_m_sum_17 : decode M_m_sum.2.1 17 = .ok (.iconst 1, 1) := by decide +kernel
theorem d_m_sum_18 : decode M_m_sum.2.1 18 = .ok (.iadd, 1) := by decide +kernel
theorem d_m_sum_19 : decode M_m_sum.2.1 19 = .ok (.imul, 1) := by decide +kernel
theorem d_m_sum_20 : decode M_m_sum.2.1 20 = .ok (.iadd, 1) := by decide +kernel
theorem d_m_sum_21 : decode M_m_sum.2.1 21 = .ok (.sipush 251, 3) := by decide +kernel
theorem d_m_sum_24 : decode M_m_sum.2.1 24 = .ok (.irem, 1) := by decide +kernel
theorem d_m_sum_25 : decode M_m_sum.2.1 25 = .ok (.istore_n 2, 1) := by decide +kernel
theorem d_m_sum_26 : decode M_m_sum.2.1 26 = .ok (.iinc 3 1, 3) := by decide +kernel
theorem d_m_sum_29 : decode M_m_sum.2.1 29 = .ok (.goto (-25), 3) := by decide +kernel
theorem d_m_sum_32 : decode M_m_sum.2.1 32 = .ok (.iload_n 2, 1) := by decide +kernel
theorem d_m_sum_33 : decode M_m_sum.2.1 33 = .ok (.ireturn, 1) := by decide +kernel
theorem d_m_alter_0 : decode M_m_alter.2.1 0 = .ok (.iload_n 1, 1) := by decide +kernel
theorem d_m_alter_1 : decode M_m_alter.2.1 1 = .ok (.iconst 0, 1) := by decide +kernel
theorem d_m_alter_2 : decode M_m_alter.2.1 2 = .ok (.aload_n 0, 1) := by decide +kernel
theorem d_m_alter_3 : decode M_m_alter.2.1 3 = .ok (.getfield 203, 3) := by decide +kernel
theorem d_m_alter_6 : decode M_m_alter.2.1 6 = .ok (.invokestatic 85, 3) := by decide +kernel
theorem d_m_alter_9 : decode M_m_alter.2.1 9 = .ok (.ifCond .eq 21, 3) := by decide +kernel
theorem d_m_alter_12 : decode M_m_alter.2.1 12 = .ok (.iload_n 1, 1) := by decide +kernel
theorem d_m_alter_13 : decode M_m_alter.2.1 13 = .ok (.sipush 250, 3) := by decide +kernel
theorem d_m_alter_16 : decode M_m_alter.2.1 16 = .ok (.if_icmp .eq 14, 3) := by decide +kernel
theorem d_m_alter_19 : decode M_m_alter.2.1 19 = .ok (.iload_n 2, 1) := by decide +kernel
theorem d_m_alter_20 : decode M_m_alter.2.1 20 = .ok (.iconst 0, 1) := by decide +kernel
theorem d_m_alter_21 : decode M_m_alter.2.1 21 = .ok (.sipush 255, 3) := by decide +kernel
theorem d_m_alter_24 : decode M_m_alter.2.1 24 = .ok (.invokestatic 85, 3) := by decide +kernel
theorem d_m_alter_27 : decode M_m_alter.2.1 27 = .ok (.ifCond .ne 5, 3) := by decide +kernel
theorem d_m_alter_30 : decode M_m_alter.2.1 30 = .ok (.iconst 0, 1) := by decide +kernel
theorem d_m_alter_31 : decode M_m_alter.2.1 31 = .ok (.ireturn, 1) := by decide +kernel
theorem d_m_alter_32 : decode M_m_alter.2.1 32 = .ok (.aload_n 0, 1) := by decide +kernel
theorem d_m_alter_33 : decode M_m_alter.2.1 33 = .ok (.getfield 35, 3) := by decide +kernel
theorem d_m_alter_36 : decode M_m_alter.2.1 36 = .ok (.iload_n 1, 1) := by decide +kernel
theorem d_m_alter_37 : decode M_m_alter.2.1 37 = .ok (.iload_n 2, 1) := by decide +kernel
theorem d_m_alter_38 : decode M_m_alter.2.1 38 = .ok (.iastore, 1) := by decide +kernel
theorem d_m_alter_39 : decode M_m_alter.2.1 39 = .ok (.aload_n 0, 1) := by decide +kernel
theorem d_m_alter_40 : decode M_m_alter.2.1 40 = .ok (.iload_n 1, 1) := by decide +kernel
theorem d_m_alter_41 : decode M_m_alter.2.1 41 = .ok (.aload_n 0, 1) := by decide +kernel
theorem d_m_alter_42 : decode M_m_alter.2.1 42 = .ok (.getfield 203, 3) := by decide +kernel
theorem d_m_alter_45 : decode M_m_alter.2.1 45 = .ok (.if_icmp .ne 12, 3) := by decide +kernel
theorem d_m_alter_48 : decode M_m_alter.2.1 48 = .ok (.aload_n 0, 1) := by decide +kernel
theorem d_m_alter_49 : decode M_m_alter.2.1 49 = .ok (.getfield 203, 3) := by decide +kernel
theorem d_m_alter_52 : decode M_m_alter.2.1 52 = .ok (.iconst 1, 1) := by decide +kernel
theorem d_m_alter_53 : decode M_m_alter.2.1 53 = .ok (.iadd, 1) := by decide +kernel
theorem d_m_alter_54 : decode M_m_alter.2.1 54 = .ok (.goto 7, 3) := by decide +kernel
theorem d_m_alter_57 : decode M_m_alter.2.1 57 = .ok (.aload_n 0, 1) := by decide +kernel
theorem d_m_alter_58 : decode M_m_alter.2.1 58 = .ok (.getfield 203, 3) := by decide +kernel
theorem d_m_alter_61 : decode M_m_alter.2.1 61 = .ok (.putfield 203, 3) := by decide +kernel
theorem d_m_alter_64 : decode M_m_alter.2.1 64 = .ok (.iconst 1, 1) := by decide +kernel
theorem d_m_alter_65 : decode M_m_alter.2.1 65 = .ok (.ireturn, 1) := by decide +kernel
theorem d_m_cut_0 : decode M_m_cut.2.1 0 = .ok (.iload_n 1, 1) := by decide +kernel
theorem d_m_cut_1 : decode M_m_cut.2.1 1 = .ok (.iconst 0, 1) := by decide +kernel
theorem d_m_cut_2 : decode M_m_cut.2.1 2 = .ok (.aload_n 0, 1) := by decide +kernel
theorem d_m_cut_3 : decode M_m_cut.2.1 3 = .ok (.getfield 203, 3) := by decide +kernel
theorem d_m_cut_6 : decode M_m_cut.2.1 6 = .ok (.invokestatic 85, 3) := by decide +kernel
theorem d_m_cut_9 : decode M_m_cut.2.1 9 = .ok (.ifCond .ne 5, 3) := by decide +kernel
theorem d_m_cut_12 : decode M_m_cut.2.1 12 = .ok (.iconst 0, 1) := by decide +kernel
theorem d_m_cut_13 : decode M_m_cut.2.1 13 = .ok (.ireturn, 1) := by decide +kernel
theorem d_m_cut_14 : decode M_m_cut.2.1 14 = .ok (.aload_n 0, 1) := by decide +kernel
theorem d_m_cut_15 : decode M_m_cut.2.1 15 = .ok (.iload_n 1, 1) := by decide +kernel
theorem d_m_cut_16 : decode M_m_cut.2.1 16 = .ok (.putfield 203, 3) := by decide +kernel
theorem d_m_cut_19 : decode M_m_cut.2.1 19 = .ok (.iconst 1, 1) := by decide +kernel
theorem d_m_cut_20 : decode M_m_cut.2.1 20 = .ok (.ireturn, 1) := by decide +kernel
theorem d_m_byteAt_0 : decode M_m_byteAt.2.1 0 = .ok (.iload_n 1, 1) := by decide +kernel
theorem d_m_byteAt_1 : decode M_m_byteAt.2.1 1 = .ok (.iconst 0, 1) := by decide +kernel
theorem d_m_byteAt_2 : decode M_m_byteAt.2.1 2 = .ok (.aload_n 0, 1) := by decide +kernel
theorem d_m_byteAt_3 : decode M_m_byteAt.2.1 3 = .ok (.getfield 203, 3) := by decide +kernel
theorem d_m_byteAt_6 : decode M_m_byteAt.2.1 6 = .ok (.iconst 1, 1) := by decide +kernel
theorem d_m_byteAt_7 : decode M_m_byteAt.2.1 7 = .ok (.isub, 1) := by decide +kernel
theorem d_m_byteAt_8 : decode M_m_byteAt.2.1 8 = .ok (.invokestatic 85, 3) := by decide +kernel
theorem d_m_byteAt_11 : decode M_m_byteAt.2.1 11 = .ok (.ifCond .eq 12, 3) := by decide +kernel
theorem d_m_byteAt_14 : decode M_m_byteAt.2.1 14 = .ok (.aload_n 0, 1) := by decide +kernel
theorem d_m_byteAt_15 : decode M_m_byteAt.2.1 15 = .ok (.getfield 35, 3) := by decide +kernel
theorem d_m_byteAt_18 : decode M_m_byteAt.2.1 18 = .ok (.iload_n 1, 1) := by decide +kernel
theorem d_m_byteAt_19 : decode M_m_byteAt.2.1 19 = .ok (.iaload, 1) := by decide +kernel
theorem d_m_byteAt_20 : decode M_m_byteAt.2.1 20 = .ok (.goto 4, 3) := by decide +kernel
theorem d_m_byteAt_23 : decode M_m_byteAt.2.1 23 = .ok (.iconst (-1), 1) := by decide +kernel
theorem d_m_byteAt_24 : decode M_m_byteAt.2.1 24 = .ok (.ireturn, 1) := by decide +kernel
theorem d_m_load_0 : decode M_m_load.2.1 0 = .ok (.aload_n 0, 1) := by decide +kernel
theorem d_m_load_1 : decode M_m_load.2.1 1 = .ok (.invokevirtual 221, 3) := by decide +kernel
theorem d_m_load_4 : decode M_m_load.2.1 4 = .ok (.istore_n 1, 1) := by decide +kernel
theorem d_m_load_5 : decode M_m_load.2.1 5 = .ok (.iload_n 1, 1) := by decide +kernel
theorem d_m_load_6 : decode M_m_load.2.1 6 = .ok (.ifCond .le 5, 3) := by decide +kernel
theorem d_m_load_9 : decode M_m_load.2.1 9 = .ok (.iload_n 1, 1) := by decide +kernel
theorem d_m_load_10 : decode M_m_load.2.1 10 = .ok (.ireturn, 1) := by decide +kernel
theorem d_m_load_11 : decode M_m_load.2.1 11 = .ok (.aload_n 0, 1) := by decide +kernel
theorem d_m_load_12 : decode M_m_load.2.1 12 = .ok (.iconst 1, 1) := by decide +kernel
theorem d_m_load_13 : decode M_m_load.2.1 13 = .ok (.putfield 92, 3) := by decide +kernel
theorem d_m_load_16 : decode M_m_load.2.1 16 = .ok (.aload_n 0, 1) := by decide +kernel
theorem d_m_load_17 : decode M_m_load.2.1 17 = .ok (.aload_n 0, 1) := by decide +kernel
theorem d_m_load_18 : decode M_m_load.2.1 18 = .ok (.getfield 35, 3) := by decide +kernel
theorem d_m_load_21 : decode M_m_load.2.1 21 = .ok (.iconst 2, 1) := by decide +kernel
theorem d_m_load_22 : decode M_m_load.2.1 22 = .ok (.iaload, 1) := by decide +kernel
theorem d_m_load_23 : decode M_m_load.2.1 23 = .ok (.putfield 128, 3) := by decide +kernel
theorem d_m_load_26 : decode M_m_load.2.1 26 = .ok (.aload_n 0, 1) := by decide +kernel
theorem d_m_load_27 : decode M_m_load.2.1 27 = .ok (.aload_n 0, 1) := by decide +kernel
theorem d_m_load_28 : decode M_m_load.2.1 28 = .ok (.getfield 35, 3) := by decide +kernel
theorem d_m_load_31 : decode M_m_load.2.1 31 = .ok (.iconst 3, 1) := by decide +kernel
theorem d_m_load_32 : decode M_m_load.2.1 32 = .ok (.iaload, 1) := by decide +kernel
theorem d_m_load_33 : decode M_m_load.2.1 33 = .ok (.putfield 134, 3) := by decide +kernel
theorem d_m_load_36 : decode M_m_load.2.1 36 = .ok (.aload_n 0, 1) := by decide +kernel
theorem d_m_load_37 : decode M_m_load.2.1 37 = .ok (.aload_n 0, 1) := by decide +kernel
theorem d_m_load_38 : decode M_m_load.2.1 38 = .ok (.getfield 35, 3) := by decide +kernel
theorem d_m_load_41 : decode M_m_load.2.1 41 = .ok (.iconst 4, 1) := by decide +kernel
theorem d_m_load_42 : decode M_m_load.2.1 42 = .ok (.iaload, 1) := by decide +kernel
theorem d_m_load_43 : decode M_m_load.2.1 43 = .ok (.putfield 137, 3) := by decide +kernel
theorem d_m_load_46 : decode M_m_load.2.1 46 = .ok (.aload_n 0, 1) := by decide +kernel
theorem d_m_load_47 : decode M_m_load.2.1 47 = .ok (.aload_n 0, 1) := by decide +kernel
theorem d_m_load_48 : decode M_m_load.2.1 48 = .ok (.getfield 35, 3) := by decide +kernel
theorem d_m_load_51 : decode M_m_load.2.1 51 = .ok (.iconst 5, 1) := by decide +kernel
theorem d_m_load_52 : decode M_m_load.2.1 52 = .ok (.iaload, 1) := by decide +kernel
