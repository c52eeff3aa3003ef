theorem d_m_spread_41 : decode M_m_spread.2.1 41 = .ok (.iload_n 2, 1) := by decide +kernel
theorem d_m_spread_42 : decode M_m_spread.2.1 42 = .ok (.if_icmp .ge 8, 3) := by decide +kernel
theorem d_m_spread_45 : decode M_m_spread.2.1 45 = .ok (.iload 5, 2) := by decide +kernel
theorem d_m_spread_47 : decode M_m_spread.2.1 47 = .ok (.goto 4, 3) := by decide +kernel
theorem d_m_spread_50 : decode M_m_spread.2.1 50 = .ok (.iload_n 2, 1) := by decide +kernel
theorem d_m_spread_51 : decode M_m_spread.2.1 51 = .ok (.istore_n 2, 1) := by decide +kernel
theorem d_m_spread_52 : decode M_m_spread.2.1 52 = .ok (.iload 5, 2) := by decide +kernel
theorem d_m_spread_54 : decode M_m_spread.2.1 54 = .ok (.iload_n 3, 1) := by decide +kernel
theorem d_m_spread_55 : decode M_m_spread.2.1 55 = .ok (.if_icmp .le 8, 3) := by decide +kernel
theorem d_m_spread_58 : decode M_m_spread.2.1 58 = .ok (.iload 5, 2) := by decide +kernel
theorem d_m_spread_60 : decode M_m_spread.2.1 60 = .ok (.goto 4, 3) := by decide +kernel
theorem d_m_spread_63 : decode M_m_spread.2.1 63 = .ok (.iload_n 3, 1) := by decide +kernel
theorem d_m_spread_64 : decode M_m_spread.2.1 64 = .ok (.istore_n 3, 1) := by decide +kernel
theorem d_m_spread_65 : decode M_m_spread.2.1 65 = .ok (.iinc 4 1, 3) := by decide +kernel
theorem d_m_spread_68 : decode M_m_spread.2.1 68 = .ok (.goto (-51), 3) := by decide +kernel
theorem d_m_spread_71 : decode M_m_spread.2.1 71 = .ok (.iconst 0, 1) := by decide +kernel
theorem d_m_spread_72 : decode M_m_spread.2.1 72 = .ok (.istore 4, 2) := by decide +kernel
theorem d_m_spread_74 : decode M_m_spread.2.1 74 = .ok (.iload 4, 2) := by decide +kernel
theorem d_m_spread_76 : decode M_m_spread.2.1 76 = .ok (.aload_n 0, 1) := by decide +kernel
theorem d_m_spread_77 : decode M_m_spread.2.1 77 = .ok (.getfield 137, 3) := by decide +kernel
theorem d_m_spread_80 : decode M_m_spread.2.1 80 = .ok (.if_icmp .ge 50, 3) := by decide +kernel
theorem d_m_spread_83 : decode M_m_spread.2.1 83 = .ok (.aload_n 0, 1) := by decide +kernel
theorem d_m_spread_84 : decode M_m_spread.2.1 84 = .ok (.getfield 19, 3) := by decide +kernel
theorem d_m_spread_87 : decode M_m_spread.2.1 87 = .ok (.bipush 8, 2) := by decide +kernel
theorem d_m_spread_89 : decode M_m_spread.2.1 89 = .ok (.iload_n 1, 1) := by decide +kernel
theorem d_m_spread_90 : decode M_m_spread.2.1 90 = .ok (.imul, 1) := by decide +kernel
theorem d_m_spread_91 : decode M_m_spread.2.1 91 = .ok (.iconst 2, 1) := by decide +kernel
theorem d_m_spread_92 : decode M_m_spread.2.1 92 = .ok (.iload 4, 2) := by decide +kernel
theorem d_m_spread_94 : decode M_m_spread.2.1 94 = .ok (.imul, 1) := by decide +kernel
theorem d_m_spread_95 : decode M_m_spread.2.1 95 = .ok (.iadd, 1) := by decide +kernel
theorem d_m_spread_96 : decode M_m_spread.2.1 96 = .ok (.aload_n 0, 1) := by decide +kernel
theorem d_m_spread_97 : decode M_m_spread.2.1 97 = .ok (.getfield 137, 3) := by decide +kernel
theorem d_m_spread_100 : decode M_m_spread.2.1 100 = .ok (.iconst 1, 1) := by decide +kernel
theorem d_m_spread_101 : decode M_m_spread.2.1 101 = .ok (.if_icmp .ne 7, 3) := by decide +kernel
theorem d_m_spread_104 : decode M_m_spread.2.1 104 = .ok (.iload_n 2, 1) := by decide +kernel
theorem d_m_spread_105 : decode M_m_spread.2.1 105 = .ok (.goto 18, 3) := by decide +kernel
theorem d_m_spread_108 : decode M_m_spread.2.1 108 = .ok (.iload_n 2, 1) := by decide +kernel
theorem d_m_spread_109 : decode M_m_spread.2.1 109 = .ok (.iload_n 3, 1) := by decide +kernel
theorem d_m_spread_110 : decode M_m_spread.2.1 110 = .ok (.iload_n 2, 1) := by decide +kernel
theorem d_m_spread_111 : decode M_m_spread.2.1 111 = .ok (.isub, 1) := by decide +kernel
theorem d_m_spread_112 : decode M_m_spread.2.1 112 = .ok (.iload 4, 2) := by decide +kernel
theorem d_m_spread_114 : decode M_m_spread.2.1 114 = .ok (.imul, 1) := by decide +kernel
theorem d_m_spread_115 : decode M_m_spread.2.1 115 = .ok (.aload_n 0, 1) := by decide +kernel
theorem d_m_spread_116 : decode M_m_spread.2.1 116 = .ok (.getfield 137, 3) := by decide +kernel
theorem d_m_spread_119 : decode M_m_spread.2.1 119 = .ok (.iconst 1, 1) := by decide +kernel
theorem d_m_spread_120 : decode M_m_spread.2.1 120 = .ok (.isub, 1) := by decide +kernel
theorem d_m_spread_121 : decode M_m_spread.2.1 121 = .ok (.idiv, 1) := by decide +kernel
theorem d_m_spread_122 : decode M_m_spread.2.1 122 = .ok (.iadd, 1) := by decide +kernel
theorem d_m_spread_123 : decode M_m_spread.2.1 123 = .ok (.iastore, 1) := by decide +kernel
theorem d_m_spread_124 : decode M_m_spread.2.1 124 = .ok (.iinc 4 1, 3) := by decide +kernel
theorem d_m_spread_127 : decode M_m_spread.2.1 127 = .ok (.goto (-53), 3) := by decide +kernel
theorem d_m_spread_130 : decode M_m_spread.2.1 130 = .ok (.return_, 1) := by decide +kernel
theorem d_m_loss_0 : decode M_m_loss.2.1 0 = .ok (.iconst 0, 1) := by decide +kernel
theorem d_m_loss_1 : decode M_m_loss.2.1 1 = .ok (.istore_n 1, 1) := by decide +kernel
theorem d_m_loss_2 : decode M_m_loss.2.1 2 = .ok (.iconst 0, 1) := by decide +kernel
theorem d_m_loss_3 : decode M_m_loss.2.1 3 = .ok (.istore_n 2, 1) := by decide +kernel
theorem d_m_loss_4 : decode M_m_loss.2.1 4 = .ok (.iload_n 2, 1) := by decide +kernel
theorem d_m_loss_5 : decode M_m_loss.2.1 5 = .ok (.aload_n 0, 1) := by decide +kernel
theorem d_m_loss_6 : decode M_m_loss.2.1 6 = .ok (.getfield 103, 3) := by decide +kernel
theorem d_m_loss_9 : decode M_m_loss.2.1 9 = .ok (.if_icmp .ge 71, 3) := by decide +kernel
theorem d_m_loss_12 : decode M_m_loss.2.1 12 = .ok (.iconst 0, 1) := by decide +kernel
theorem d_m_loss_13 : decode M_m_loss.2.1 13 = .ok (.istore_n 3, 1) := by decide +kernel
theorem d_m_loss_14 : decode M_m_loss.2.1 14 = .ok (.iload_n 3, 1) := by decide +kernel
theorem d_m_loss_15 : decode M_m_loss.2.1 15 = .ok (.iconst 4, 1) := by decide +kernel
theorem d_m_loss_16 : decode M_m_loss.2.1 16 = .ok (.if_icmp .ge 25, 3) := by decide +kernel
theorem d_m_loss_19 : decode M_m_loss.2.1 19 = .ok (.aload_n 0, 1) := by decide +kernel
theorem d_m_loss_20 : decode M_m_loss.2.1 20 = .ok (.getfield 44, 3) := by decide +kernel
theorem d_m_loss_23 : decode M_m_loss.2.1 23 = .ok (.iload_n 3, 1) := by decide +kernel
theorem d_m_loss_24 : decode M_m_loss.2.1 24 = .ok (.aload_n 0, 1) := by decide +kernel
theorem d_m_loss_25 : decode M_m_loss.2.1 25 = .ok (.getfield 53, 3) := by decide +kernel
theorem d_m_loss_28 : decode M_m_loss.2.1 28 = .ok (.iconst 4, 1) := by decide +kernel
theorem d_m_loss_29 : decode M_m_loss.2.1 29 = .ok (.iload_n 2, 1) := by decide +kernel
theorem d_m_loss_30 : decode M_m_loss.2.1 30 = .ok (.imul, 1) := by decide +kernel
theorem d_m_loss_31 : decode M_m_loss.2.1 31 = .ok (.iload_n 3, 1) := by decide +kernel
theorem d_m_loss_32 : decode M_m_loss.2.1 32 = .ok (.iadd, 1) := by decide +kernel
theorem d_m_loss_33 : decode M_m_loss.2.1 33 = .ok (.iaload, 1) := by decide +kernel
theorem d_m_loss_34 : decode M_m_loss.2.1 34 = .ok (.iastore, 1) := by decide +kernel
theorem d_m_loss_35 : decode M_m_loss.2.1 35 = .ok (.iinc 3 1, 3) := by decide +kernel
theorem d_m_loss_38 : decode M_m_loss.2.1 38 = .ok (.goto (-24), 3) := by decide +kernel
theorem d_m_loss_41 : decode M_m_loss.2.1 41 = .ok (.iconst 0, 1) := by decide +kernel
theorem d_m_loss_42 : decode M_m_loss.2.1 42 = .ok (.istore_n 3, 1) := by decide +kernel
theorem d_m_loss_43 : decode M_m_loss.2.1 43 = .ok (.iload_n 3, 1) := by decide +kernel
theorem d_m_loss_44 : decode M_m_loss.2.1 44 = .ok (.aload_n 0, 1) := by decide +kernel
theorem d_m_loss_45 : decode M_m_loss.2.1 45 = .ok (.invokevirtual 144, 3) := by decide +kernel
theorem d_m_loss_48 : decode M_m_loss.2.1 48 = .ok (.if_icmp .ge 26, 3) := by decide +kernel
theorem d_m_loss_51 : decode M_m_loss.2.1 51 = .ok (.aload_n 0, 1) := by decide +kernel
theorem d_m_loss_52 : decode M_m_loss.2.1 52 = .ok (.iload_n 3, 1) := by decide +kernel
theorem d_m_loss_53 : decode M_m_loss.2.1 53 = .ok (.invokevirtual 158, 3) := by decide +kernel
theorem d_m_loss_56 : decode M_m_loss.2.1 56 = .ok (.istore 4, 2) := by decide +kernel
theorem d_m_loss_58 : decode M_m_loss.2.1 58 = .ok (.iload_n 1, 1) := by decide +kernel
theorem d_m_loss_59 : decode M_m_loss.2.1 59 = .ok (.aload_n 0, 1) := by decide +kernel
theorem d_m_loss_60 : decode M_m_loss.2.1 60 = .ok (.iload_n 3, 1) := by decide +kernel
theorem d_m_loss_61 : decode M_m_loss.2.1 61 = .ok (.iload 4, 2) := by decide +kernel
theorem d_m_loss_63 : decode M_m_loss.2.1 63 = .ok (.invokevirtual 161, 3) := by decide +kernel
theorem d_m_loss_66 : decode M_m_loss.2.1 66 = .ok (.iadd, 1) := by decide +kernel
theorem d_m_loss_67 : decode M_m_loss.2.1 67 = .ok (.istore_n 1, 1) := by decide +kernel
theorem d_m_loss_68 : decode M_m_loss.2.1 68 = .ok (.iinc 3 1, 3) := by decide +kernel
theorem d_m_loss_71 : decode M_m_loss.2.1 71 = .ok (.goto (-28), 3) := by decide +kernel
theorem d_m_loss_74 : decode M_m_loss.2.1 74 = .ok (.iinc 2 1, 3) := by decide +kernel
theorem d_m_loss_77 : decode M_m_loss.2.1 77 = .ok (.goto (-73), 3) := by decide +kernel
theorem d_m_loss_80 : decode M_m_loss.2.1 80 = .ok (.iload_n 1, 1) := by decide +kernel
theorem d_m_loss_81 : decode M_m_loss.2.1 81 = .ok (.ireturn, 1) := by decide +kernel
theorem d_m_nearestWord_0 : decode M_m_nearestWord.2.1 0 = .ok (.iconst 0, 1) := by decide +kernel
theorem d_m_nearestWord_1 : decode M_m_nearestWord.2.1 1 = .ok (.istore_n 2, 1) := by decide +kernel
theorem d_m_nearestWord_2 : decode M_m_nearestWord.2.1 2 = .ok (.iconst 1, 1) := by decide +kernel
theorem d_m_nearestWord_3 : decode M_m_nearestWord.2.1 3 = .ok (.istore_n 3, 1) := by decide +kernel
theorem d_m_nearestWord_4 : decode M_m_nearestWord.2.1 4 = .ok (.iload_n 3, 1) := by decide +kernel
theorem d_m_nearestWord_5 : decode M_m_nearestWord.2.1 5 = .ok (.aload_n 0, 1) := by decide +kernel
theorem d_m_nearestWord_6 : decode M_m_nearestWord.2.1 6 = .ok (.getfield 137, 3) := by decide +kernel
theorem d_m_nearestWord_9 : decode M_m_nearestWord.2.1 9 = .ok (.if_icmp .ge 30, 3) := by decide +kernel
theorem d_m_nearestWord_12 : decode M_m_nearestWord.2.1 12 = .ok (.aload_n 0, 1) := by decide +kernel
theorem d_m_nearestWord_13 : decode M_m_nearestWord.2.1 13 = .ok (.iload_n 1, 1) := by decide +kernel
theorem d_m_nearestWord_14 : decode M_m_nearestWord.2.1 14 = .ok (.iload_n 3, 1) := by decide +kernel
theorem d_m_nearestWord_15 : decode M_m_nearestWord.2.1 15 = .ok (.invokevirtual 161, 3) := by decide +kernel
theorem d_m_nearestWord_18 : decode M_m_nearestWord.2.1 18 = .ok (.istore 4, 2) := by decide +kernel
theorem d_m_nearestWord_20 : decode M_m_nearestWord.2.1 20 = .ok (.iload 4, 2) := by decide +kernel
theorem d_m_nearestWord_22 : decode M_m_nearestWord.2.1 22 = .ok (.aload_n 0, 1) := by decide +kernel
theorem d_m_nearestWord_23 : decode M_m_nearestWord.2.1 23 = .ok (.iload_n 1, 1) := by decide +kernel
theorem d_m_nearestWord_24 : decode M_m_nearestWord.2.1 24 = .ok (.iload_n 2, 1) := by decide +kernel
theorem d_m_nearestWord_25 : decode M_m_nearestWord.2.1 25 = .ok (.invokevirtual 161, 3) := by decide +kernel
theorem d_m_nearestWord_28 : decode M_m_nearestWord.2.1 28 = .ok (.if_icmp .ge 5, 3) := by decide +kernel
theorem d_m_nearestWord_31 : decode M_m_nearestWord.2.1 31 = .ok (.iload_n 3, 1) := by decide +kernel
theorem d_m_nearestWord_32 : decode M_m_nearestWord.2.1 32 = .ok (.istore_n 2, 1) := by decide +kernel
theorem d_m_nearestWord_33 : decode M_m_nearestWord.2.1 33 = .ok (.iinc 3 1, 3) := by decide +kernel
theorem d_m_nearestWord_36 : decode M_m_nearestWord.2.1 36 = .ok (.goto (-32), 3) := by decide +kernel
theorem d_m_nearestWord_39 : decode M_m_nearestWord.2.1 39 = .ok (.iload_n 2, 1) := by decide +kernel
theorem d_m_nearestWord_40 : decode M_m_nearestWord.2.1 40 = .ok (.ireturn, 1) := by decide +kernel
theorem d_m_wordGap_0 : decode M_m_wordGap.2.1 0 = .ok (.iconst 0, 1) := by decide +kernel
theorem d_m_wordGap_1 : decode M_m_wordGap.2.1 1 = .ok (.istore_n 3, 1) := by decide +kernel
theorem d_m_wordGap_2 : decode M_m_wordGap.2.1 2 = .ok (.iconst 0, 1) := by decide +kernel
theorem d_m_wordGap_3 : decode M_m_wordGap.2.1 3 = .ok (.istore 4, 2) := by decide +kernel
theorem d_m_wordGap_5 : decode M_m_wordGap.2.1 5 = .ok (.iload 4, 2) := by decide +kernel
theorem d_m_wordGap_7 : decode M_m_wordGap.2.1 7 = .ok (.aload_n 0, 1) := by decide +kernel
theorem d_m_wordGap_8 : decode M_m_wordGap.2.1 8 = .ok (.invokevirtual 164, 3) := by decide +kernel
theorem d_m_wordGap_11 : decode M_m_wordGap.2.1 11 = .ok (.if_icmp .ge 50, 3) := by decide +kernel
theorem d_m_wordGap_14 : decode M_m_wordGap.2.1 14 = .ok (.aload_n 0, 1) := by decide +kernel
theorem d_m_wordGap_15 : decode M_m_wordGap.2.1 15 = .ok (.getfield 44, 3) := by decide +kernel
theorem d_m_wordGap_18 : decode M_m_wordGap.2.1 18 = .ok (.iload_n 1, 1) := by decide +kernel
theorem d_m_wordGap_19 : decode M_m_wordGap.2.1 19 = .ok (.aload_n 0, 1) := by decide +kernel
theorem d_m_wordGap_20 : decode M_m_wordGap.2.1 20 = .ok (.invokevirtual 164, 3) := by decide +kernel
theorem d_m_wordGap_23 : decode M_m_wordGap.2.1 23 = .ok (.imul, 1) := by decide +kernel
theorem d_m_wordGap_24 : decode M_m_wordGap.2.1 24 = .ok (.iload 4, 2) := by decide +kernel
theorem d_m_wordGap_26 : decode M_m_wordGap.2.1 26 = .ok (.iadd, 1) := by decide +kernel
theorem d_m_wordGap_27 : decode M_m_wordGap.2.1 27 = .ok (.iaload, 1) := by decide +kernel
theorem d_m_wordGap_28 : decode M_m_wordGap.2.1 28 = .ok (.aload_n 0, 1) := by decide +kernel
theorem d_m_wordGap_29 : decode M_m_wordGap.2.1 29 = .ok (.getfield 19, 3) := by decide +kernel
theorem d_m_wordGap_32 : decode M_m_wordGap.2.1 32 = .ok (.bipush 8, 2) := by decide +kernel
theorem d_m_wordGap_34 : decode M_m_wordGap.2.1 34 = .ok (.iload_n 1, 1) := by decide +kernel
theorem d_m_wordGap_35 : decode M_m_wordGap.2.1 35 = .ok (.imul, 1) := by decide +kernel
theorem d_m_wordGap_36 : decode M_m_wordGap.2.1 36 = .ok (.iconst 2, 1) := by decide +kernel
theorem d_m_wordGap_37 : decode M_m_wordGap.2.1 37 = .ok (.iload_n 2, 1) := by decide +kernel
theorem d_m_wordGap_38 : decode M_m_wordGap.2.1 38 = .ok (.imul, 1) := by decide +kernel
theorem d_m_wordGap_39 : decode M_m_wordGap.2.1 39 = .ok (.iadd, 1) := by decide +kernel
theorem d_m_wordGap_40 : decode M_m_wordGap.2.1 40 = .ok (.iload 4, 2) := by decide +kernel
theorem d_m_wordGap_42 : decode M_m_wordGap.2.1 42 = .ok (.iadd, 1) := by decide +kernel
theorem d_m_wordGap_43 : decode M_m_wordGap.2.1 43 = .ok (.iaload, 1) := by decide +kernel
theorem d_m_wordGap_44 : decode M_m_wordGap.2.1 44 = .ok (.isub, 1) := by decide +kernel
theorem d_m_wordGap_45 : decode M_m_wordGap.2.1 45 = .ok (.istore 5, 2) := by decide +kernel
theorem d_m_wordGap_47 : decode M_m_wordGap.2.1 47 = .ok (.iload_n 3, 1) := by decide +kernel
theorem d_m_wordGap_48 : decode M_m_wordGap.2.1 48 = .ok (.iload 5, 2) := by decide +kernel
theorem d_m_wordGap_50 : decode M_m_wordGap.2.1 50 = .ok (.iload 5, 2) := by decide +kernel
theorem d_m_wordGap_52 : decode M_m_wordGap.2.1 52 = .ok (.imul, 1) := by decide +kernel
theorem d_m_wordGap_53 : decode M_m_wordGap.2.1 53 = .ok (.iadd, 1) := by decide +kernel
theorem d_m_wordGap_54 : decode M_m_wordGap.2.1 54 = .ok (.istore_n 3, 1) := by decide +kernel
theorem d_m_wordGap_55 : decode M_m_wordGap.2.1 55 = .ok (.iinc 4 1, 3) := by decide +kernel
theorem d_m_wordGap_58 : decode M_m_wordGap.2.1 58 = .ok (.goto (-53), 3) := by decide +kernel
theorem d_m_wordGap_61 : decode M_m_wordGap.2.1 61 = .ok (.iload_n 3, 1) := by decide +kernel
theorem d_m_wordGap_62 : decode M_m_wordGap.2.1 62 = .ok (.ireturn, 1) := by decide +kernel
theorem d_m_size_0 : decode M_m_size.2.1 0 = .ok (.aload_n 0, 1) := by decide +kernel
theorem d_m_size_1 : decode M_m_size.2.1 1 = .ok (.getfield 128, 3) := by decide +kernel
theorem d_m_size_4 : decode M_m_size.2.1 4 = .ok (.ifCond .ne 7, 3) := by decide +kernel
theorem d_m_size_7 : decode M_m_size.2.1 7 = .ok (.iconst 2, 1) := by decide +kernel
theorem d_m_size_8 : decode M_m_size.2.1 8 = .ok (.goto 4, 3) := by decide +kernel
theorem d_m_size_11 : decode M_m_size.2.1 11 = .ok (.iconst 1, 1) := by decide +kernel
theorem d_m_size_12 : decode M_m_size.2.1 12 = .ok (.ireturn, 1) := by decide +kernel
theorem d_m_centre_0 : decode M_m_centre.2.1 0 = .ok (.aload_n 0, 1) := by decide +kernel
theorem d_m_centre_1 : decode M_m_centre.2.1 1 = .ok (.getfield 92, 3) := by decide +kernel
theorem d_m_centre_4 : decode M_m_centre.2.1 4 = .ok (.ifCond .eq 39, 3) := by decide +kernel
theorem d_m_centre_7 : decode M_m_centre.2.1 7 = .ok (.iload_n 1, 1) := by decide +kernel
theorem d_m_centre_8 : decode M_m_centre.2.1 8 = .ok (.iconst 0, 1) := by decide +kernel
theorem d_m_centre_9 : decode M_m_centre.2.1 9 = .ok (.aload_n 0, 1) := by decide +kernel
theorem d_m_centre_10 : decode M_m_centre.2.1 10 = .ok (.getfield 134, 3) := by decide +kernel
theorem d_m_centre_13 : decode M_m_centre.2.1 13 = .ok (.iconst 1, 1) := by decide +kernel
theorem d_m_centre_14 : decode M_m_centre.2.1 14 = .ok (.isub, 1) := by decide +kernel
theorem d_m_centre_15 : decode M_m_centre.2.1 15 = .ok (.invokestatic 85, 3) := by decide +kernel
theorem d_m_centre_18 : decode M_m_centre.2.1 18 = .ok (.ifCond .eq 25, 3) := by decide +kernel
theorem d_m_centre_21 : decode M_m_centre.2.1 21 = .ok (.iload_n 2, 1) := by decide +kernel
theorem d_m_centre_22 : decode M_m_centre.2.1 22 = .ok (.iconst 0, 1) := by decide +kernel
theorem d_m_centre_23 : decode M_m_centre.2.1 23 = .ok (.iconst 3, 1) := by decide +kernel
theorem d_m_centre_24 : decode M_m_centre.2.1 24 = .ok (.invokestatic 85, 3) := by decide +kernel
theorem d_m_centre_27 : decode M_m_centre.2.1 27 = .ok (.ifCond .eq 16, 3) := by decide +kernel
theorem d_m_centre_30 : decode M_m_centre.2.1 30 = .ok (.aload_n 0, 1) := by decide +kernel
theorem d_m_centre_31 : decode M_m_centre.2.1 31 = .ok (.getfield 16, 3) := by decide +kernel
theorem d_m_centre_34 : decode M_m_centre.2.1 34 = .ok (.iconst 4, 1) := by decide +kernel
theorem d_m_centre_35 : decode M_m_centre.2.1 35 = .ok (.iload_n 1, 1) := by decide +kernel
theorem d_m_centre_36 : decode M_m_centre.2.1 36 = .ok (.imul, 1) := by decide +kernel
theorem d_m_centre_37 : decode M_m_centre.2.1 37 = .ok (.iload_n 2, 1) := by decide +kernel
theorem d_m_centre_38 : decode M_m_centre.2.1 38 = .ok (.iadd, 1) := by decide +kernel
theorem d_m_centre_39 : decode M_m_centre.2.1 39 = .ok (.iaload, 1) := by decide +kernel
theorem d_m_centre_40 : decode M_m_centre.2.1 40 = .ok (.goto 6, 3) := by decide +kernel
theorem d_m_centre_43 : decode M_m_centre.2.1 43 = .ok (.sipush (-1000), 3) := by decide +kernel
theorem d_m_centre_46 : decode M_m_centre.2.1 46 = .ok (.ireturn, 1) := by decide +kernel
theorem d_m_word_0 : decode M_m_word.2.1 0 = .ok (.aload_n 0, 1) := by decide +kernel
theorem d_m_word_1 : decode M_m_word.2.1 1 = .ok (.getfield 92, 3) := by decide +kernel
theorem d_m_word_4 : decode M_m_word.2.1 4 = .ok (.ifCond .eq 49, 3) := by decide +kernel
theorem d_m_word_7 : decode M_m_word.2.1 7 = .ok (.iload_n 1, 1) := by decide +kernel
theorem d_m_word_8 : decode M_m_word.2.1 8 = .ok (.iconst 0, 1) := by decide +kernel
theorem d_m_word_9 : decode M_m_word.2.1 9 = .ok (.aload_n 0, 1) := by decide +kernel
theorem d_m_word_10 : decode M_m_word.2.1 10 = .ok (.invokevirtual 144, 3) := by decide +kernel
theorem d_m_word_13 : decode M_m_word.2.1 13 = .ok (.iconst 1, 1) := by decide +kernel
theorem d_m_word_14 : decode M_m_word.2.1 14 = .ok (.isub, 1) := by decide +kernel
theorem d_m_word_15 : decode M_m_word.2.1 15 = .ok (.invokestatic 85, 3) := by decide +kernel
theorem d_m_word_18 : decode M_m_word.2.1 18 = .ok (.ifCond .eq 35, 3) := by decide +kernel
theorem d_m_word_21 : decode M_m_word.2.1 21 = .ok (.iload_n 2, 1) := by decide +kernel
theorem d_m_word_22 : decode M_m_word.2.1 22 = .ok (.iconst 0, 1) := by decide +kernel
theorem d_m_word_23 : decode M_m_word.2.1 23 = .ok (.aload_n 0, 1) := by decide +kernel
theorem d_m_word_24 : decode M_m_word.2.1 24 = .ok (.getfield 137, 3) := by decide +kernel
theorem d_m_word_27 : decode M_m_word.2.1 27 = .ok (.iconst 1, 1) := by decide +kernel
theorem d_m_word_28 : decode M_m_word.2.1 28 = .ok (.isub, 1) := by decide +kernel
theorem d_m_word_29 : decode M_m_word.2.1 29 = .ok (.invokestatic 85, 3) := by decide +kernel
theorem d_m_word_32 : decode M_m_word.2.1 32 = .ok (.ifCond .eq 21, 3) := by decide +kernel
theorem d_m_word_35 : decode M_m_word.2.1 35 = .ok (.iload_n 3, 1) := by decide +kernel
theorem d_m_word_36 : decode M_m_word.2.1 36 = .ok (.iconst 0, 1) := by decide +kernel
theorem d_m_word_37 : decode M_m_word.2.1 37 = .ok (.aload_n 0, 1) := by decide +kernel
theorem d_m_word_38 : decode M_m_word.2.1 38 = .ok (.invokevirtual 164, 3) := by decide +kernel
theorem d_m_word_41 : decode M_m_word.2.1 41 = .ok (.iconst 1, 1) := by decide +kernel
theorem d_m_word_42 : decode M_m_word.2.1 42 = .ok (.isub, 1) := by decide +kernel
theorem d_m_word_43 : decode M_m_word.2.1 43 = .ok (.invokestatic 85, 3) := by decide +kernel
theorem d_m_word_46 : decode M_m_word.2.1 46 = .ok (.ifCond .eq 7, 3) := by decide +kernel
theorem d_m_word_49 : decode M_m_word.2.1 49 = .ok (.iconst 1, 1) := by decide +kernel
theorem d_m_word_50 : decode M_m_word.2.1 50 = .ok (.goto 4, 3) := by decide +kernel
theorem d_m_word_53 : decode M_m_word.2.1 53 = .ok (.iconst 0, 1) := by decide +kernel
theorem d_m_word_54 : decode M_m_word.2.1 54 = .ok (.istore 4, 2) := by decide +kernel
theorem d_m_word_56 : decode M_m_word.2.1 56 = .ok (.iload 4, 2) := by decide +kernel
theorem d_m_word_58 : decode M_m_word.2.1 58 = .ok (.ifCond .eq 21, 3) := by decide +kernel
theorem d_m_word_61 : decode M_m_word.2.1 61 = .ok (.aload_n 0, 1) := by decide +kernel
theorem d_m_word_62 : decode M_m_word.2.1 62 = .ok (.getfield 19, 3) := by decide +kernel
theorem d_m_word_65 : decode M_m_word.2.1 65 = .ok (.bipush 8, 2) := by decide +kernel
theorem d_m_word_67 : decode M_m_word.2.1 67 = .ok (.iload_n 1, 1) := by decide +kernel
theorem d_m_word_68 : decode M_m_word.2.1 68 = .ok (.imul, 1) := by decide +kernel
theorem d_m_word_69 : decode M_m_word.2.1 69 = .ok (.iconst 2, 1) := by decide +kernel
theorem d_m_word_70 : decode M_m_word.2.1 70 = .ok (.iload_n 2, 1) := by decide +kernel
theorem d_m_word_71 : decode M_m_word.2.1 71 = .ok (.imul, 1) := by decide +kernel
theorem d_m_word_72 : decode M_m_word.2.1 72 = .ok (.iadd, 1) := by decide +kernel
theorem d_m_word_73 : decode M_m_word.2.1 73 = .ok (.iload_n 3, 1) := by decide +kernel
theorem d_m_word_74 : decode M_m_word.2.1 74 = .ok (.iadd, 1) := by decide +kernel
theorem d_m_word_75 : decode M_m_word.2.1 75 = .ok (.iaload, 1) := by decide +kernel
theorem d_m_word_76 : decode M_m_word.2.1 76 = .ok (.goto 6, 3) := by decide +kernel
theorem d_m_word_79 : decode M_m_word.2.1 79 = .ok (.sipush (-1000), 3) := by decide +kernel
theorem d_m_word_82 : decode M_m_word.2.1 82 = .ok (.ireturn, 1) := by decide +kernel
theorem d_m_add_0 : decode M_m_add.2.1 0 = .ok (.aload_n 0, 1) := by decide +kernel
theorem d_m_add_1 : decode M_m_add.2.1 1 = .ok (.iload_n 2, 1) := by decide +kernel
theorem d_m_add_2 : decode M_m_add.2.1 2 = .ok (.iload_n 3, 1) := by decide +kernel
theorem d_m_add_3 : decode M_m_add.2.1 3 = .ok (.iload 4, 2) := by decide +kernel
theorem d_m_add_5 : decode M_m_add.2.1 5 = .ok (.iload 5, 2) := by decide +kernel
theorem d_m_add_7 : decode M_m_add.2.1 7 = .ok (.invokevirtual 100, 3) := by decide +kernel
theorem d_m_add_10 : decode M_m_add.2.1 10 = .ok (.istore 6, 2) := by decide +kernel
theorem d_m_add_12 : decode M_m_add.2.1 12 = .ok (.aload_n 0, 1) := by decide +kernel
theorem d_m_add_13 : decode M_m_add.2.1 13 = .ok (.getfield 92, 3) := by decide +kernel
theorem d_m_add_16 : decode M_m_add.2.1 16 = .ok (.ifCond .ne 7, 3) := by decide +kernel
theorem d_m_add_19 : decode M_m_add.2.1 19 = .ok (.iconst (-1), 1) := by decide +kernel
theorem d_m_add_20 : decode M_m_add.2.1 20 = .ok (.goto 58, 3) := by decide +kernel
theorem d_m_add_23 : decode M_m_add.2.1 23 = .ok (.iload_n 1, 1) := by decide +kernel
theorem d_m_add_24 : decode M_m_add.2.1 24 = .ok (.iconst 0, 1) := by decide +kernel
theorem d_m_add_25 : decode M_m_add.2.1 25 = .ok (.sipush 999, 3) := by decide +kernel
theorem d_m_add_28 : decode M_m_add.2.1 28 = .ok (.invokestatic 85, 3) := by decide +kernel
theorem d_m_add_31 : decode M_m_add.2.1 31 = .ok (.ifCond .ne 8, 3) := by decide +kernel
theorem d_m_add_34 : decode M_m_add.2.1 34 = .ok (.bipush (-2), 2) := by decide +kernel
theorem d_m_add_36 : decode M_m_add.2.1 36 = .ok (.goto 42, 3) := by decide +kernel
theorem d_m_add_39 : decode M_m_add.2.1 39 = .ok (.iload 6, 2) := by decide +kernel
theorem d_m_add_41 : decode M_m_add.2.1 41 = .ok (.ifCond .ne 8, 3) := by decide +kernel
theorem d_m_add_44 : decode M_m_add.2.1 44 = .ok (.bipush (-3), 2) := by decide +kernel
theorem d_m_add_46 : decode M_m_add.2.1 46 = .ok (.goto 32, 3) := by decide +kernel
theorem d_m_add_49 : decode M_m_add.2.1 49 = .ok (.aload_n 0, 1) := by decide +kernel
theorem d_m_add_50 : decode M_m_add.2.1 50 = .ok (.getfield 22, 3) := by decide +kernel
theorem d_m_add_53 : decode M_m_add.2.1 53 = .ok (.iload_n 1, 1) := by decide +kernel
theorem d_m_add_54 : decode M_m_add.2.1 54 = .ok (.baload, 1) := by decide +kernel
theorem d_m_add_55 : decode M_m_add.2.1 55 = .ok (.ifCond .eq 8, 3) := by decide +kernel
theorem d_m_add_58 : decode M_m_add.2.1 58 = .ok (.bipush (-4), 2) := by decide +kernel
theorem d_m_add_60 : decode M_m_add.2.1 60 = .ok (.goto 18, 3) := by decide +kernel
theorem d_m_add_63 : decode M_m_add.2.1 63 = .ok (.aload_n 0, 1) := by decide +kernel
theorem d_m_add_64 : decode M_m_add.2.1 64 = .ok (.getfield 131, 3) := by decide +kernel
theorem d_m_add_67 : decode M_m_add.2.1 67 = .ok (.bipush 20, 2) := by decide +kernel
theorem d_m_add_69 : decode M_m_add.2.1 69 = .ok (.if_icmp .ne 8, 3) := by decide +kernel
theorem d_m_add_72 : decode M_m_add.2.1 72 = .ok (.bipush (-5), 2) := by decide +kernel
theorem d_m_add_74 : decode M_m_add.2.1 74 = .ok (.goto 4, 3) := by decide +kernel
theorem d_m_add_77 : decode M_m_add.2.1 77 = .ok (.iconst 0, 1) := by decide +kernel
theorem d_m_add_78 : decode M_m_add.2.1 78 = .ok (.istore 7, 2) := by decide +kernel
theorem d_m_add_80 : decode M_m_add.2.1 80 = .ok (.iload 7, 2) := by decide +kernel
theorem d_m_add_82 : decode M_m_add.2.1 82 = .ok (.ifCond .ge 6, 3) := by decide +kernel
theorem d_m_add_85 : decode M_m_add.2.1 85 = .ok (.iload 7, 2) := by decide +kernel
theorem d_m_add_87 : decode M_m_add.2.1 87 = .ok (.ireturn, 1) := by decide +kernel
theorem d_m_add_88 : decode M_m_add.2.1 88 = .ok (.aload_n 0, 1) := by decide +kernel
theorem d_m_add_89 : decode M_m_add.2.1 89 = .ok (.getfield 22, 3) := by decide +kernel
theorem d_m_add_92 : decode M_m_add.2.1 92 = .ok (.iload_n 1, 1) := by decide +kernel
theorem d_m_add_93 : decode M_m_add.2.1 93 = .ok (.iconst 1, 1) := by decide +kernel
theorem d_m_add_94 : decode M_m_add.2.1 94 = .ok (.bastore, 1) := by decide +kernel
theorem d_m_add_95 : decode M_m_add.2.1 95 = .ok (.aload_n 0, 1) := by decide +kernel
theorem d_m_add_96 : decode M_m_add.2.1 96 = .ok (.dup, 1) := by decide +kernel
theorem d_m_add_97 : decode M_m_add.2.1 97 = .ok (.getfield 131, 3) := by decide +kernel
theorem d_m_add_100 : decode M_m_add.2.1 100 = .ok (.iconst 1, 1) := by decide +kernel
theorem d_m_add_101 : decode M_m_add.2.1 101 = .ok (.iadd, 1) := by decide +kernel
theorem d_m_add_102 : decode M_m_add.2.1 102 = .ok (.putfield 131, 3) := by decide +kernel
theorem d_m_add_105 : decode M_m_add.2.1 105 = .ok (.iconst 0, 1) := by decide +kernel
theorem d_m_add_106 : decode M_m_add.2.1 106 = .ok (.istore 8, 2) := by decide +kernel
theorem d_m_add_108 : decode M_m_add.2.1 108 = .ok (.iload 8, 2) := by decide +kernel
theorem d_m_add_110 : decode M_m_add.2.1 110 = .ok (.iconst 4, 1) := by decide +kernel
theorem d_m_add_111 : decode M_m_add.2.1 111 = .ok (.if_icmp .ge 27, 3) := by decide +kernel
theorem d_m_add_114 : decode M_m_add.2.1 114 = .ok (.aload_n 0, 1) := by decide +kernel
theorem d_m_add_115 : decode M_m_add.2.1 115 = .ok (.getfield 26, 3) := by decide +kernel
theorem d_m_add_118 : decode M_m_add.2.1 118 = .ok (.iconst 4, 1) := by decide +kernel
theorem d_m_add_119 : decode M_m_add.2.1 119 = .ok (.iload_n 1, 1) := by decide +kernel
theorem d_m_add_120 : decode M_m_add.2.1 120 = .ok (.imul, 1) := by decide +kernel
theorem d_m_add_121 : decode M_m_add.2.1 121 = .ok (.iload 8, 2) := by decide +kernel
theorem d_m_add_123 : decode M_m_add.2.1 123 = .ok (.iadd, 1) := by decide +kernel
theorem d_m_add_124 : decode M_m_add.2.1 124 = .ok (.aload_n 0, 1) := by decide +kernel
theorem d_m_add_125 : decode M_m_add.2.1 125 = .ok (.getfield 38, 3) := by decide +kernel
theorem d_m_add_128 : decode M_m_add.2.1 128 = .ok (.iload 8, 2) := by decide +kernel
theorem d_m_add_130 : decode M_m_add.2.1 130 = .ok (.iaload, 1) := by decide +kernel
theorem d_m_add_131 : decode M_m_add.2.1 131 = .ok (.iastore, 1) := by decide +kernel
theorem d_m_add_132 : decode M_m_add.2.1 132 = .ok (.iinc 8 1, 3) := by decide +kernel
theorem d_m_add_135 : decode M_m_add.2.1 135 = .ok (.goto (-27), 3) := by decide +kernel
theorem d_m_add_138 : decode M_m_add.2.1 138 = .ok (.aload_n 0, 1) := by decide +kernel
theorem d_m_add_139 : decode M_m_add.2.1 139 = .ok (.invokevirtual 89, 3) := by decide +kernel
theorem d_m_add_142 : decode M_m_add.2.1 142 = .ok (.aload_n 0, 1) := by decide +kernel
theorem d_m_add_143 : decode M_m_add.2.1 143 = .ok (.invokevirtual 170, 3) := by decide +kernel
theorem d_m_add_146 : decode M_m_add.2.1 146 = .ok (.ireturn, 1) := by decide +kernel
theorem d_m_listNow_0 : decode M_m_listNow.2.1 0 = .ok (.iconst 0, 1) := by decide +kernel
theorem d_m_listNow_1 : decode M_m_listNow.2.1 1 = .ok (.istore_n 1, 1) := by decide +kernel
theorem d_m_listNow_2 : decode M_m_listNow.2.1 2 = .ok (.iconst 1, 1) := by decide +kernel
theorem d_m_listNow_3 : decode M_m_listNow.2.1 3 = .ok (.istore_n 2, 1) := by decide +kernel
theorem d_m_listNow_4 : decode M_m_listNow.2.1 4 = .ok (.iload_n 2, 1) := by decide +kernel
theorem d_m_listNow_5 : decode M_m_listNow.2.1 5 = .ok (.aload_n 0, 1) := by decide +kernel
theorem d_m_listNow_6 : decode M_m_listNow.2.1 6 = .ok (.getfield 134, 3) := by decide +kernel
theorem d_m_listNow_9 : decode M_m_listNow.2.1 9 = .ok (.if_icmp .ge 26, 3) := by decide +kernel
theorem d_m_listNow_12 : decode M_m_listNow.2.1 12 = .ok (.aload_n 0, 1) := by decide +kernel
theorem d_m_listNow_13 : decode M_m_listNow.2.1 13 = .ok (.iload_n 2, 1) := by decide +kernel
theorem d_m_listNow_14 : decode M_m_listNow.2.1 14 = .ok (.invokevirtual 167, 3) := by decide +kernel
theorem d_m_listNow_17 : decode M_m_listNow.2.1 17 = .ok (.istore_n 3, 1) := by decide +kernel
theorem d_m_listNow_18 : decode M_m_listNow.2.1 18 = .ok (.iload_n 3, 1) := by decide +kernel
theorem d_m_listNow_19 : decode M_m_listNow.2.1 19 = .ok (.aload_n 0, 1) := by decide +kernel
theorem d_m_listNow_20 : decode M_m_listNow.2.1 20 = .ok (.iload_n 1, 1) := by decide +kernel
theorem d_m_listNow_21 : decode M_m_listNow.2.1 21 = .ok (.invokevirtual 167, 3) := by decide +kernel
theorem d_m_listNow_24 : decode M_m_listNow.2.1 24 = .ok (.if_icmp .ge 5, 3) := by decide +kernel
theorem d_m_listNow_27 : decode M_m_listNow.2.1 27 = .ok (.iload_n 2, 1) := by decide +kernel
theorem d_m_listNow_28 : decode M_m_listNow.2.1 28 = .ok (.istore_n 1, 1) := by decide +kernel
theorem d_m_listNow_29 : decode M_m_listNow.2.1 29 = .ok (.iinc 2 1, 3) := by decide +kernel
theorem d_m_listNow_32 : decode M_m_listNow.2.1 32 = .ok (.goto (-28), 3) := by decide +kernel
theorem d_m_listNow_35 : decode M_m_listNow.2.1 35 = .ok (.iload_n 1, 1) := by decide +kernel
theorem d_m_listNow_36 : decode M_m_listNow.2.1 36 = .ok (.ireturn, 1) := by decide +kernel
theorem d_m_away_0 : decode M_m_away.2.1 0 = .ok (.iconst 0, 1) := by decide +kernel
theorem d_m_away_1 : decode M_m_away.2.1 1 = .ok (.istore_n 2, 1) := by decide +kernel
theorem d_m_away_2 : decode M_m_away.2.1 2 = .ok (.iconst 0, 1) := by decide +kernel
theorem d_m_away_3 : decode M_m_away.2.1 3 = .ok (.istore_n 3, 1) := by decide +kernel
theorem d_m_away_4 : decode M_m_away.2.1 4 = .ok (.iload_n 3, 1) := by decide +kernel
theorem d_m_away_5 : decode M_m_away.2.1 5 = .ok (.iconst 4, 1) := by decide +kernel
theorem d_m_away_6 : decode M_m_away.2.1 6 = .ok (.if_icmp .ge 36, 3) := by decide +kernel
theorem d_m_away_9 : decode M_m_away.2.1 9 = .ok (.aload_n 0, 1) := by decide +kernel
theorem d_m_away_10 : decode M_m_away.2.1 10 = .ok (.getfield 41, 3) := by decide +kernel
theorem d_m_away_13 : decode M_m_away.2.1 13 = .ok (.iload_n 3, 1) := by decide +kernel
theorem d_m_away_14 : decode M_m_away.2.1 14 = .ok (.iaload, 1) := by decide +kernel
theorem d_m_away_15 : decode M_m_away.2.1 15 = .ok (.aload_n 0, 1) := by decide +kernel
theorem d_m_away_16 : decode M_m_away.2.1 16 = .ok (.getfield 16, 3) := by decide +kernel
theorem d_m_away_19 : decode M_m_away.2.1 19 = .ok (.iconst 4, 1) := by decide +kernel
theorem d_m_away_20 : decode M_m_away.2.1 20 = .ok (.iload_n 1, 1) := by decide +kernel
theorem d_m_away_21 : decode M_m_away.2.1 21 = .ok (.imul, 1) := by decide +kernel
theorem d_m_away_22 : decode M_m_away.2.1 22 = .ok (.iload_n 3, 1) := by decide +kernel
theorem d_m_away_23 : decode M_m_away.2.1 23 = .ok (.iadd, 1) := by decide +kernel
theorem d_m_away_24 : decode M_m_away.2.1 24 = .ok (.iaload, 1) := by decide +kernel
theorem d_m_away_25 : decode M_m_away.2.1 25 = .ok (.isub, 1) := by decide +kernel
theorem d_m_away_26 : decode M_m_away.2.1 26 = .ok (.istore 4, 2) := by decide +kernel
theorem d_m_away_28 : decode M_m_away.2.1 28 = .ok (.iload_n 2, 1) := by decide +kernel
theorem d_m_away_29 : decode M_m_away.2.1 29 = .ok (.iload 4, 2) := by decide +kernel
theorem d_m_away_31 : decode M_m_away.2.1 31 = .ok (.iload 4, 2) := by decide +kernel
theorem d_m_away_33 : decode M_m_away.2.1 33 = .ok (.imul, 1) := by decide +kernel
theorem d_m_away_34 : decode M_m_away.2.1 34 = .ok (.iadd, 1) := by decide +kernel
theorem d_m_away_35 : decode M_m_away.2.1 35 = .ok (.istore_n 2, 1) := by decide +kernel
theorem d_m_away_36 : decode M_m_away.2.1 36 = .ok (.iinc 3 1, 3) := by decide +kernel
theorem d_m_away_39 : decode M_m_away.2.1 39 = .ok (.goto (-35), 3) := by decide +kernel
theorem d_m_away_42 : decode M_m_away.2.1 42 = .ok (.iload_n 2, 1) := by decide +kernel
theorem d_m_away_43 : decode M_m_away.2.1 43 = .ok (.ireturn, 1) := by decide +kernel
theorem d_m_remove_0 : decode M_m_remove.2.1 0 = .ok (.aload_n 0, 1) := by decide +kernel
theorem d_m_remove_1 : decode M_m_remove.2.1 1 = .ok (.iload_n 1, 1) := by decide +kernel
theorem d_m_remove_2 : decode M_m_remove.2.1 2 = .ok (.invokevirtual 173, 3) := by decide +kernel
theorem d_m_remove_5 : decode M_m_remove.2.1 5 = .ok (.ifCond .ne 5, 3) := by decide +kernel
theorem d_m_remove_8 : decode M_m_remove.2.1 8 = .ok (.iconst 0, 1) := by decide +kernel
theorem d_m_remove_9 : decode M_m_remove.2.1 9 = .ok (.ireturn, 1) := by decide +kernel
theorem d_m_remove_10 : decode M_m_remove.2.1 10 = .ok (.aload_n 0, 1) := by decide +kernel
theorem d_m_remove_11 : decode M_m_remove.2.1 11 = .ok (.getfield 22, 3) := by decide +kernel
theorem d_m_remove_14 : decode M_m_remove.2.1 14 = .ok (.iload_n 1, 1) := by decide +kernel
theorem d_m_remove_15 : decode M_m_remove.2.1 15 = .ok (.iconst 0, 1) := by decide +kernel
theorem d_m_remove_16 : decode M_m_remove.2.1 16 = .ok (.bastore, 1) := by decide +kernel
theorem d_m_remove_17 : decode M_m_remove.2.1 17 = .ok (.aload_n 0, 1) := by decide +kernel
theorem d_m_remove_18 : decode M_m_remove.2.1 18 = .ok (.dup, 1) := by decide +kernel
theorem d_m_remove_19 : decode M_m_remove.2.1 19 = .ok (.getfield 131, 3) := by decide +kernel
theorem d_m_remove_22 : decode M_m_remove.2.1 22 = .ok (.iconst 1, 1) := by decide +kernel
theorem d_m_remove_23 : decode M_m_remove.2.1 23 = .ok (.isub, 1) := by decide +kernel
theorem d_m_remove_24 : decode M_m_remove.2.1 24 = .ok (.putfield 131, 3) := by decide +kernel
theorem d_m_remove_27 : decode M_m_remove.2.1 27 = .ok (.iconst 1, 1) := by decide +kernel
theorem d_m_remove_28 : decode M_m_remove.2.1 28 = .ok (.ireturn, 1) := by decide +kernel
theorem d_m_there_0 : decode M_m_there.2.1 0 = .ok (.iload_n 1, 1) := by decide +kernel
theorem d_m_there_1 : decode M_m_there.2.1 1 = .ok (.iconst 0, 1) := by decide +kernel
theorem d_m_there_2 : decode M_m_there.2.1 2 = .ok (.sipush 999, 3) := by decide +kernel
theorem d_m_there_5 : decode M_m_there.2.1 5 = .ok (.invokestatic 85, 3) := by decide +kernel
theorem d_m_there_8 : decode M_m_there.2.1 8 = .ok (.ifCond .eq 16, 3) := by decide +kernel
theorem d_m_there_11 : decode M_m_there.2.1 11 = .ok (.aload_n 0, 1) := by decide +kernel
theorem d_m_there_12 : decode M_m_there.2.1 12 = .ok (.getfield 22, 3) := by decide +kernel
theorem d_m_there_15 : decode M_m_there.2.1 15 = .ok (.iload_n 1, 1) := by decide +kernel
theorem d_m_there_16 : decode M_m_there.2.1 16 = .ok (.baload, 1) := by decide +kernel
theorem d_m_there_17 : decode M_m_there.2.1 17 = .ok (.ifCond .eq 7, 3) := by decide +kernel
theorem d_m_there_20 : decode M_m_there.2.1 20 = .ok (.iconst 1, 1) := by decide +kernel
theorem d_m_there_21 : decode M_m_there.2.1 21 = .ok (.goto 4, 3) := by decide +kernel
theorem d_m_there_24 : decode M_m_there.2.1 24 = .ok (.iconst 0, 1) := by decide +kernel
theorem d_m_there_25 : decode M_m_there.2.1 25 = .ok (.ireturn, 1) := by decide +kernel
theorem d_m_listOf_0 : decode M_m_listOf.2.1 0 = .ok (.aload_n 0, 1) := by decide +kernel
theorem d_m_listOf_1 : decode M_m_listOf.2.1 1 = .ok (.iload_n 1, 1) := by decide +kernel
theorem d_m_listOf_2 : decode M_m_listOf.2.1 2 = .ok (.invokevirtual 173, 3) := by decide +kernel
theorem d_m_listOf_5 : decode M_m_listOf.2.1 5 = .ok (.ifCond .ne 5, 3) := by decide +kernel
theorem d_m_listOf_8 : decode M_m_listOf.2.1 8 = .ok (.iconst (-1), 1) := by decide +kernel
theorem d_m_listOf_9 : decode M_m_listOf.2.1 9 = .ok (.ireturn, 1) := by decide +kernel
theorem d_m_listOf_10 : decode M_m_listOf.2.1 10 = .ok (.aload_n 0, 1) := by decide +kernel
theorem d_m_listOf_11 : decode M_m_listOf.2.1 11 = .ok (.iload_n 1, 1) := by decide +kernel
theorem d_m_listOf_12 : decode M_m_listOf.2.1 12 = .ok (.invokevirtual 176, 3) := by decide +kernel
theorem d_m_listOf_15 : decode M_m_listOf.2.1 15 = .ok (.aload_n 0, 1) := by decide +kernel
theorem d_m_listOf_16 : decode M_m_listOf.2.1 16 = .ok (.invokevirtual 170, 3) := by decide +kernel
theorem d_m_listOf_19 : decode M_m_listOf.2.1 19 = .ok (.ireturn, 1) := by decide +kernel
theorem d_m_turnEntry_0 : decode M_m_turnEntry.2.1 0 = .ok (.iconst 0, 1) := by decide +kernel
theorem d_m_turnEntry_1 : decode M_m_turnEntry.2.1 1 = .ok (.istore_n 2, 1) := by decide +kernel
theorem d_m_turnEntry_2 : decode M_m_turnEntry.2.1 2 = .ok (.iload_n 2, 1) := by decide +kernel
theorem d_m_turnEntry_3 : decode M_m_turnEntry.2.1 3 = .ok (.iconst 4, 1) := by decide +kernel
theorem d_m_turnEntry_4 : decode M_m_turnEntry.2.1 4 = .ok (.if_icmp .ge 25, 3) := by decide +kernel
theorem d_m_turnEntry_7 : decode M_m_turnEntry.2.1 7 = .ok (.aload_n 0, 1) := by decide +kernel
theorem d_m_turnEntry_8 : decode M_m_turnEntry.2.1 8 = .ok (.getfield 38, 3) := by decide +kernel
theorem d_m_turnEntry_11 : decode M_m_turnEntry.2.1 11 = .ok (.iload_n 2, 1) := by decide +kernel
theorem d_m_turnEntry_12 : decode M_m_turnEntry.2.1 12 = .ok (.aload_n 0, 1) := by decide +kernel
theorem d_m_turnEntry_13 : decode M_m_turnEntry.2.1 13 = .ok (.getfield 26, 3) := by decide +kernel
theorem d_m_turnEntry_16 : decode M_m_turnEntry.2.1 16 = .ok (.iconst 4, 1) := by decide +kernel
theorem d_m_turnEntry_17 : decode M_m_turnEntry.2.1 17 = .ok (.iload_n 1, 1) := by decide +kernel
theorem d_m_turnEntry_18 : decode M_m_turnEntry.2.1 18 = .ok (.imul, 1) := by decide +kernel
theorem d_m_turnEntry_19 : decode M_m_turnEntry.2.1 19 = .ok (.iload_n 2, 1) := by decide +kernel
theorem d_m_turnEntry_20 : decode M_m_turnEntry.2.1 20 = .ok (.iadd, 1) := by decide +kernel
theorem d_m_turnEntry_21 : decode M_m_turnEntry.2.1 21 = .ok (.iaload, 1) := by decide +kernel
theorem d_m_turnEntry_22 : decode M_m_turnEntry.2.1 22 = .ok (.iastore, 1) := by decide +kernel
theorem d_m_turnEntry_23 : decode M_m_turnEntry.2.1 23 = .ok (.iinc 2 1, 3) := by decide +kernel
theorem d_m_turnEntry_26 : decode M_m_turnEntry.2.1 26 = .ok (.goto (-24), 3) := by decide +kernel
theorem d_m_turnEntry_29 : decode M_m_turnEntry.2.1 29 = .ok (.aload_n 0, 1) := by decide +kernel
theorem d_m_turnEntry_30 : decode M_m_turnEntry.2.1 30 = .ok (.invokevirtual 89, 3) := by decide +kernel
theorem d_m_turnEntry_33 : decode M_m_turnEntry.2.1 33 = .ok (.return_, 1) := by decide +kernel
theorem d_m_codeOf_0 : decode M_m_codeOf.2.1 0 = .ok (.aload_n 0, 1) := by decide +kernel
theorem d_m_codeOf_1 : decode M_m_codeOf.2.1 1 = .ok (.iload_n 1, 1) := by decide +kernel
