theorem d_q_partsOf_16 : decode M_q_partsOf.2.1 16 = .ok (.ireturn, 1) := by decide +kernel
theorem d_q_wordRow_0 : decode M_q_wordRow.2.1 0 = .ok (.iload_n 0, 1) := by decide +kernel
theorem d_q_wordRow_1 : decode M_q_wordRow.2.1 1 = .ok (.iconst 4, 1) := by decide +kernel
theorem d_q_wordRow_2 : decode M_q_wordRow.2.1 2 = .ok (.imul, 1) := by decide +kernel
theorem d_q_wordRow_3 : decode M_q_wordRow.2.1 3 = .ok (.iload_n 1, 1) := by decide +kernel
theorem d_q_wordRow_4 : decode M_q_wordRow.2.1 4 = .ok (.iadd, 1) := by decide +kernel
theorem d_q_wordRow_5 : decode M_q_wordRow.2.1 5 = .ok (.ireturn, 1) := by decide +kernel
theorem d_c_least_0 : decode M_c_least.2.1 0 = .ok (.aload_n 0, 1) := by decide +kernel
theorem d_c_least_1 : decode M_c_least.2.1 1 = .ok (.getfield 11, 3) := by decide +kernel
theorem d_c_least_4 : decode M_c_least.2.1 4 = .ok (.iconst 0, 1) := by decide +kernel
theorem d_c_least_5 : decode M_c_least.2.1 5 = .ok (.aaload, 1) := by decide +kernel
theorem d_c_least_6 : decode M_c_least.2.1 6 = .ok (.iload_n 1, 1) := by decide +kernel
theorem d_c_least_7 : decode M_c_least.2.1 7 = .ok (.iaload, 1) := by decide +kernel
theorem d_c_least_8 : decode M_c_least.2.1 8 = .ok (.istore_n 2, 1) := by decide +kernel
theorem d_c_least_9 : decode M_c_least.2.1 9 = .ok (.iconst 1, 1) := by decide +kernel
theorem d_c_least_10 : decode M_c_least.2.1 10 = .ok (.istore_n 3, 1) := by decide +kernel
theorem d_c_least_11 : decode M_c_least.2.1 11 = .ok (.iload_n 3, 1) := by decide +kernel
theorem d_c_least_12 : decode M_c_least.2.1 12 = .ok (.aload_n 0, 1) := by decide +kernel
theorem d_c_least_13 : decode M_c_least.2.1 13 = .ok (.getfield 51, 3) := by decide +kernel
theorem d_c_least_16 : decode M_c_least.2.1 16 = .ok (.if_icmp .ge 22, 3) := by decide +kernel
theorem d_c_least_19 : decode M_c_least.2.1 19 = .ok (.iload_n 2, 1) := by decide +kernel
theorem d_c_least_20 : decode M_c_least.2.1 20 = .ok (.aload_n 0, 1) := by decide +kernel
theorem d_c_least_21 : decode M_c_least.2.1 21 = .ok (.getfield 11, 3) := by decide +kernel
theorem d_c_least_24 : decode M_c_least.2.1 24 = .ok (.iload_n 3, 1) := by decide +kernel
theorem d_c_least_25 : decode M_c_least.2.1 25 = .ok (.aaload, 1) := by decide +kernel
theorem d_c_least_26 : decode M_c_least.2.1 26 = .ok (.iload_n 1, 1) := by decide +kernel
theorem d_c_least_27 : decode M_c_least.2.1 27 = .ok (.iaload, 1) := by decide +kernel
theorem d_c_least_28 : decode M_c_least.2.1 28 = .ok (.invokestatic 54, 3) := by decide +kernel
theorem d_c_least_31 : decode M_c_least.2.1 31 = .ok (.istore_n 2, 1) := by decide +kernel
theorem d_c_least_32 : decode M_c_least.2.1 32 = .ok (.iinc 3 1, 3) := by decide +kernel
theorem d_c_least_35 : decode M_c_least.2.1 35 = .ok (.goto (-24), 3) := by decide +kernel
theorem d_c_least_38 : decode M_c_least.2.1 38 = .ok (.iload_n 2, 1) := by decide +kernel
theorem d_c_least_39 : decode M_c_least.2.1 39 = .ok (.ireturn, 1) := by decide +kernel
theorem d_j_min_0 : decode M_j_min.2.1 0 = .ok (.iload_n 0, 1) := by decide +kernel
theorem d_j_min_1 : decode M_j_min.2.1 1 = .ok (.iload_n 1, 1) := by decide +kernel
theorem d_j_min_2 : decode M_j_min.2.1 2 = .ok (.if_icmp .gt 7, 3) := by decide +kernel
theorem d_j_min_5 : decode M_j_min.2.1 5 = .ok (.iload_n 0, 1) := by decide +kernel
theorem d_j_min_6 : decode M_j_min.2.1 6 = .ok (.goto 4, 3) := by decide +kernel
theorem d_j_min_9 : decode M_j_min.2.1 9 = .ok (.iload_n 1, 1) := by decide +kernel
theorem d_j_min_10 : decode M_j_min.2.1 10 = .ok (.ireturn, 1) := by decide +kernel
theorem d_c_greatest_0 : decode M_c_greatest.2.1 0 = .ok (.aload_n 0, 1) := by decide +kernel
theorem d_c_greatest_1 : decode M_c_greatest.2.1 1 = .ok (.getfield 11, 3) := by decide +kernel
theorem d_c_greatest_4 : decode M_c_greatest.2.1 4 = .ok (.iconst 0, 1) := by decide +kernel
theorem d_c_greatest_5 : decode M_c_greatest.2.1 5 = .ok (.aaload, 1) := by decide +kernel
theorem d_c_greatest_6 : decode M_c_greatest.2.1 6 = .ok (.iload_n 1, 1) := by decide +kernel
theorem d_c_greatest_7 : decode M_c_greatest.2.1 7 = .ok (.iaload, 1) := by decide +kernel
theorem d_c_greatest_8 : decode M_c_greatest.2.1 8 = .ok (.istore_n 2, 1) := by decide +kernel
theorem d_c_greatest_9 : decode M_c_greatest.2.1 9 = .ok (.iconst 1, 1) := by decide +kernel
theorem d_c_greatest_10 : decode M_c_greatest.2.1 10 = .ok (.istore_n 3, 1) := by decide +kernel
theorem d_c_greatest_11 : decode M_c_greatest.2.1 11 = .ok (.iload_n 3, 1) := by decide +kernel
theorem d_c_greatest_12 : decode M_c_greatest.2.1 12 = .ok (.aload_n 0, 1) := by decide +kernel
theorem d_c_greatest_13 : decode M_c_greatest.2.1 13 = .ok (.getfield 51, 3) := by decide +kernel
theorem d_c_greatest_16 : decode M_c_greatest.2.1 16 = .ok (.if_icmp .ge 22, 3) := by decide +kernel
theorem d_c_greatest_19 : decode M_c_greatest.2.1 19 = .ok (.iload_n 2, 1) := by decide +kernel
theorem d_c_greatest_20 : decode M_c_greatest.2.1 20 = .ok (.aload_n 0, 1) := by decide +kernel
theorem d_c_greatest_21 : decode M_c_greatest.2.1 21 = .ok (.getfield 11, 3) := by decide +kernel
theorem d_c_greatest_24 : decode M_c_greatest.2.1 24 = .ok (.iload_n 3, 1) := by decide +kernel
theorem d_c_greatest_25 : decode M_c_greatest.2.1 25 = .ok (.aaload, 1) := by decide +kernel
theorem d_c_greatest_26 : decode M_c_greatest.2.1 26 = .ok (.iload_n 1, 1) := by decide +kernel
theorem d_c_greatest_27 : decode M_c_greatest.2.1 27 = .ok (.iaload, 1) := by decide +kernel
theorem d_c_greatest_28 : decode M_c_greatest.2.1 28 = .ok (.invokestatic 60, 3) := by decide +kernel
theorem d_c_greatest_31 : decode M_c_greatest.2.1 31 = .ok (.istore_n 2, 1) := by decide +kernel
theorem d_c_greatest_32 : decode M_c_greatest.2.1 32 = .ok (.iinc 3 1, 3) := by decide +kernel
theorem d_c_greatest_35 : decode M_c_greatest.2.1 35 = .ok (.goto (-24), 3) := by decide +kernel
theorem d_c_greatest_38 : decode M_c_greatest.2.1 38 = .ok (.iload_n 2, 1) := by decide +kernel
theorem d_c_greatest_39 : decode M_c_greatest.2.1 39 = .ok (.ireturn, 1) := by decide +kernel
theorem d_j_max_0 : decode M_j_max.2.1 0 = .ok (.iload_n 0, 1) := by decide +kernel
theorem d_j_max_1 : decode M_j_max.2.1 1 = .ok (.iload_n 1, 1) := by decide +kernel
theorem d_j_max_2 : decode M_j_max.2.1 2 = .ok (.if_icmp .lt 7, 3) := by decide +kernel
theorem d_j_max_5 : decode M_j_max.2.1 5 = .ok (.iload_n 0, 1) := by decide +kernel
theorem d_j_max_6 : decode M_j_max.2.1 6 = .ok (.goto 4, 3) := by decide +kernel
theorem d_j_max_9 : decode M_j_max.2.1 9 = .ok (.iload_n 1, 1) := by decide +kernel
theorem d_j_max_10 : decode M_j_max.2.1 10 = .ok (.ireturn, 1) := by decide +kernel
theorem d_z_spreadWords_0 : decode M_z_spreadWords.2.1 0 = .ok (.aload_n 0, 1) := by decide +kernel
theorem d_z_spreadWords_1 : decode M_z_spreadWords.2.1 1 = .ok (.getfield 16, 3) := by decide +kernel
theorem d_z_spreadWords_4 : decode M_z_spreadWords.2.1 4 = .ok (.iload_n 1, 1) := by decide +kernel
theorem d_z_spreadWords_5 : decode M_z_spreadWords.2.1 5 = .ok (.iconst 0, 1) := by decide +kernel
theorem d_z_spreadWords_6 : decode M_z_spreadWords.2.1 6 = .ok (.invokestatic 52, 3) := by decide +kernel
theorem d_z_spreadWords_9 : decode M_z_spreadWords.2.1 9 = .ok (.aaload, 1) := by decide +kernel
theorem d_z_spreadWords_10 : decode M_z_spreadWords.2.1 10 = .ok (.iconst 0, 1) := by decide +kernel
theorem d_z_spreadWords_11 : decode M_z_spreadWords.2.1 11 = .ok (.iload_n 2, 1) := by decide +kernel
theorem d_z_spreadWords_12 : decode M_z_spreadWords.2.1 12 = .ok (.iastore, 1) := by decide +kernel
theorem d_z_spreadWords_13 : decode M_z_spreadWords.2.1 13 = .ok (.iconst 1, 1) := by decide +kernel
theorem d_z_spreadWords_14 : decode M_z_spreadWords.2.1 14 = .ok (.istore 4, 2) := by decide +kernel
theorem d_z_spreadWords_16 : decode M_z_spreadWords.2.1 16 = .ok (.iload 4, 2) := by decide +kernel
theorem d_z_spreadWords_18 : decode M_z_spreadWords.2.1 18 = .ok (.aload_n 0, 1) := by decide +kernel
theorem d_z_spreadWords_19 : decode M_z_spreadWords.2.1 19 = .ok (.getfield 34, 3) := by decide +kernel
theorem d_z_spreadWords_22 : decode M_z_spreadWords.2.1 22 = .ok (.if_icmp .ge 37, 3) := by decide +kernel
theorem d_z_spreadWords_25 : decode M_z_spreadWords.2.1 25 = .ok (.aload_n 0, 1) := by decide +kernel
theorem d_z_spreadWords_26 : decode M_z_spreadWords.2.1 26 = .ok (.getfield 16, 3) := by decide +kernel
theorem d_z_spreadWords_29 : decode M_z_spreadWords.2.1 29 = .ok (.iload_n 1, 1) := by decide +kernel
theorem d_z_spreadWords_30 : decode M_z_spreadWords.2.1 30 = .ok (.iload 4, 2) := by decide +kernel
theorem d_z_spreadWords_32 : decode M_z_spreadWords.2.1 32 = .ok (.invokestatic 52, 3) := by decide +kernel
theorem d_z_spreadWords_35 : decode M_z_spreadWords.2.1 35 = .ok (.aaload, 1) := by decide +kernel
theorem d_z_spreadWords_36 : decode M_z_spreadWords.2.1 36 = .ok (.iconst 0, 1) := by decide +kernel
theorem d_z_spreadWords_37 : decode M_z_spreadWords.2.1 37 = .ok (.iload_n 2, 1) := by decide +kernel
theorem d_z_spreadWords_38 : decode M_z_spreadWords.2.1 38 = .ok (.iload_n 3, 1) := by decide +kernel
theorem d_z_spreadWords_39 : decode M_z_spreadWords.2.1 39 = .ok (.iload_n 2, 1) := by decide +kernel
theorem d_z_spreadWords_40 : decode M_z_spreadWords.2.1 40 = .ok (.isub, 1) := by decide +kernel
theorem d_z_spreadWords_41 : decode M_z_spreadWords.2.1 41 = .ok (.iload 4, 2) := by decide +kernel
theorem d_z_spreadWords_43 : decode M_z_spreadWords.2.1 43 = .ok (.imul, 1) := by decide +kernel
theorem d_z_spreadWords_44 : decode M_z_spreadWords.2.1 44 = .ok (.aload_n 0, 1) := by decide +kernel
theorem d_z_spreadWords_45 : decode M_z_spreadWords.2.1 45 = .ok (.getfield 34, 3) := by decide +kernel
theorem d_z_spreadWords_48 : decode M_z_spreadWords.2.1 48 = .ok (.iconst 1, 1) := by decide +kernel
theorem d_z_spreadWords_49 : decode M_z_spreadWords.2.1 49 = .ok (.isub, 1) := by decide +kernel
theorem d_z_spreadWords_50 : decode M_z_spreadWords.2.1 50 = .ok (.idiv, 1) := by decide +kernel
theorem d_z_spreadWords_51 : decode M_z_spreadWords.2.1 51 = .ok (.iadd, 1) := by decide +kernel
theorem d_z_spreadWords_52 : decode M_z_spreadWords.2.1 52 = .ok (.iastore, 1) := by decide +kernel
theorem d_z_spreadWords_53 : decode M_z_spreadWords.2.1 53 = .ok (.iinc 4 1, 3) := by decide +kernel
theorem d_z_spreadWords_56 : decode M_z_spreadWords.2.1 56 = .ok (.goto (-40), 3) := by decide +kernel
theorem d_z_spreadWords_59 : decode M_z_spreadWords.2.1 59 = .ok (.return_, 1) := by decide +kernel
theorem d_q_trainingError_0 : decode M_q_trainingError.2.1 0 = .ok (.iconst 0, 1) := by decide +kernel
theorem d_q_trainingError_1 : decode M_q_trainingError.2.1 1 = .ok (.istore_n 1, 1) := by decide +kernel
theorem d_q_trainingError_2 : decode M_q_trainingError.2.1 2 = .ok (.iconst 0, 1) := by decide +kernel
theorem d_q_trainingError_3 : decode M_q_trainingError.2.1 3 = .ok (.istore_n 2, 1) := by decide +kernel
theorem d_q_trainingError_4 : decode M_q_trainingError.2.1 4 = .ok (.iload_n 2, 1) := by decide +kernel
theorem d_q_trainingError_5 : decode M_q_trainingError.2.1 5 = .ok (.aload_n 0, 1) := by decide +kernel
theorem d_q_trainingError_6 : decode M_q_trainingError.2.1 6 = .ok (.getfield 26, 3) := by decide +kernel
theorem d_q_trainingError_9 : decode M_q_trainingError.2.1 9 = .ok (.getfield 233, 3) := by decide +kernel
theorem d_q_trainingError_12 : decode M_q_trainingError.2.1 12 = .ok (.if_icmp .ge 66, 3) := by decide +kernel
theorem d_q_trainingError_15 : decode M_q_trainingError.2.1 15 = .ok (.aload_n 0, 1) := by decide +kernel
theorem d_q_trainingError_16 : decode M_q_trainingError.2.1 16 = .ok (.getfield 26, 3) := by decide +kernel
theorem d_q_trainingError_19 : decode M_q_trainingError.2.1 19 = .ok (.getfield 236, 3) := by decide +kernel
theorem d_q_trainingError_22 : decode M_q_trainingError.2.1 22 = .ok (.iload_n 2, 1) := by decide +kernel
theorem d_q_trainingError_23 : decode M_q_trainingError.2.1 23 = .ok (.aaload, 1) := by decide +kernel
theorem d_q_trainingError_24 : decode M_q_trainingError.2.1 24 = .ok (.astore_n 3, 1) := by decide +kernel
theorem d_q_trainingError_25 : decode M_q_trainingError.2.1 25 = .ok (.iconst 0, 1) := by decide +kernel
theorem d_q_trainingError_26 : decode M_q_trainingError.2.1 26 = .ok (.istore 4, 2) := by decide +kernel
theorem d_q_trainingError_28 : decode M_q_trainingError.2.1 28 = .ok (.iload 4, 2) := by decide +kernel
theorem d_q_trainingError_30 : decode M_q_trainingError.2.1 30 = .ok (.aload_n 0, 1) := by decide +kernel
theorem d_q_trainingError_31 : decode M_q_trainingError.2.1 31 = .ok (.getfield 33, 3) := by decide +kernel
theorem d_q_trainingError_34 : decode M_q_trainingError.2.1 34 = .ok (.getfield 118, 3) := by decide +kernel
theorem d_q_trainingError_37 : decode M_q_trainingError.2.1 37 = .ok (.invokestatic 257, 3) := by decide +kernel
theorem d_q_trainingError_40 : decode M_q_trainingError.2.1 40 = .ok (.if_icmp .ge 32, 3) := by decide +kernel
theorem d_q_trainingError_43 : decode M_q_trainingError.2.1 43 = .ok (.iload_n 1, 1) := by decide +kernel
theorem d_q_trainingError_44 : decode M_q_trainingError.2.1 44 = .ok (.aload_n 0, 1) := by decide +kernel
theorem d_q_trainingError_45 : decode M_q_trainingError.2.1 45 = .ok (.getfield 33, 3) := by decide +kernel
theorem d_q_trainingError_48 : decode M_q_trainingError.2.1 48 = .ok (.iload 4, 2) := by decide +kernel
theorem d_q_trainingError_50 : decode M_q_trainingError.2.1 50 = .ok (.aload_n 0, 1) := by decide +kernel
theorem d_q_trainingError_51 : decode M_q_trainingError.2.1 51 = .ok (.getfield 33, 3) := by decide +kernel
theorem d_q_trainingError_54 : decode M_q_trainingError.2.1 54 = .ok (.iload 4, 2) := by decide +kernel
theorem d_q_trainingError_56 : decode M_q_trainingError.2.1 56 = .ok (.aload_n 3, 1) := by decide +kernel
theorem d_q_trainingError_57 : decode M_q_trainingError.2.1 57 = .ok (.invokevirtual 272, 3) := by decide +kernel
theorem d_q_trainingError_60 : decode M_q_trainingError.2.1 60 = .ok (.aload_n 3, 1) := by decide +kernel
theorem d_q_trainingError_61 : decode M_q_trainingError.2.1 61 = .ok (.invokevirtual 276, 3) := by decide +kernel
theorem d_q_trainingError_64 : decode M_q_trainingError.2.1 64 = .ok (.iadd, 1) := by decide +kernel
theorem d_q_trainingError_65 : decode M_q_trainingError.2.1 65 = .ok (.istore_n 1, 1) := by decide +kernel
theorem d_q_trainingError_66 : decode M_q_trainingError.2.1 66 = .ok (.iinc 4 1, 3) := by decide +kernel
theorem d_q_trainingError_69 : decode M_q_trainingError.2.1 69 = .ok (.goto (-41), 3) := by decide +kernel
theorem d_q_trainingError_72 : decode M_q_trainingError.2.1 72 = .ok (.iinc 2 1, 3) := by decide +kernel
theorem d_q_trainingError_75 : decode M_q_trainingError.2.1 75 = .ok (.goto (-71), 3) := by decide +kernel
theorem d_q_trainingError_78 : decode M_q_trainingError.2.1 78 = .ok (.iload_n 1, 1) := by decide +kernel
theorem d_q_trainingError_79 : decode M_q_trainingError.2.1 79 = .ok (.ireturn, 1) := by decide +kernel
theorem d_z_nearestWord_0 : decode M_z_nearestWord.2.1 0 = .ok (.aload_n 0, 1) := by decide +kernel
theorem d_z_nearestWord_1 : decode M_z_nearestWord.2.1 1 = .ok (.getfield 27, 3) := by decide +kernel
theorem d_z_nearestWord_4 : decode M_z_nearestWord.2.1 4 = .ok (.invokestatic 49, 3) := by decide +kernel
theorem d_z_nearestWord_7 : decode M_z_nearestWord.2.1 7 = .ok (.istore_n 3, 1) := by decide +kernel
theorem d_z_nearestWord_8 : decode M_z_nearestWord.2.1 8 = .ok (.aload_n 0, 1) := by decide +kernel
theorem d_z_nearestWord_9 : decode M_z_nearestWord.2.1 9 = .ok (.getfield 16, 3) := by decide +kernel
theorem d_z_nearestWord_12 : decode M_z_nearestWord.2.1 12 = .ok (.iload_n 1, 1) := by decide +kernel
theorem d_z_nearestWord_13 : decode M_z_nearestWord.2.1 13 = .ok (.iconst 0, 1) := by decide +kernel
theorem d_z_nearestWord_14 : decode M_z_nearestWord.2.1 14 = .ok (.invokestatic 52, 3) := by decide +kernel
theorem d_z_nearestWord_17 : decode M_z_nearestWord.2.1 17 = .ok (.aload_n 0, 1) := by decide +kernel
theorem d_z_nearestWord_18 : decode M_z_nearestWord.2.1 18 = .ok (.getfield 34, 3) := by decide +kernel
theorem d_z_nearestWord_21 : decode M_z_nearestWord.2.1 21 = .ok (.aload_n 2, 1) := by decide +kernel
theorem d_z_nearestWord_22 : decode M_z_nearestWord.2.1 22 = .ok (.iload_n 1, 1) := by decide +kernel
theorem d_z_nearestWord_23 : decode M_z_nearestWord.2.1 23 = .ok (.iload_n 3, 1) := by decide +kernel
theorem d_z_nearestWord_24 : decode M_z_nearestWord.2.1 24 = .ok (.imul, 1) := by decide +kernel
theorem d_z_nearestWord_25 : decode M_z_nearestWord.2.1 25 = .ok (.iload_n 3, 1) := by decide +kernel
theorem d_z_nearestWord_26 : decode M_z_nearestWord.2.1 26 = .ok (.invokestatic 45, 3) := by decide +kernel
theorem d_z_nearestWord_29 : decode M_z_nearestWord.2.1 29 = .ok (.ireturn, 1) := by decide +kernel
theorem d_z_wordDistance_0 : decode M_z_wordDistance.2.1 0 = .ok (.aload_n 0, 1) := by decide +kernel
theorem d_z_wordDistance_1 : decode M_z_wordDistance.2.1 1 = .ok (.getfield 27, 3) := by decide +kernel
theorem d_z_wordDistance_4 : decode M_z_wordDistance.2.1 4 = .ok (.invokestatic 49, 3) := by decide +kernel
theorem d_z_wordDistance_7 : decode M_z_wordDistance.2.1 7 = .ok (.istore 4, 2) := by decide +kernel
theorem d_z_wordDistance_9 : decode M_z_wordDistance.2.1 9 = .ok (.aload_n 0, 1) := by decide +kernel
theorem d_z_wordDistance_10 : decode M_z_wordDistance.2.1 10 = .ok (.getfield 16, 3) := by decide +kernel
theorem d_z_wordDistance_13 : decode M_z_wordDistance.2.1 13 = .ok (.iload_n 1, 1) := by decide +kernel
theorem d_z_wordDistance_14 : decode M_z_wordDistance.2.1 14 = .ok (.iload_n 2, 1) := by decide +kernel
theorem d_z_wordDistance_15 : decode M_z_wordDistance.2.1 15 = .ok (.invokestatic 52, 3) := by decide +kernel
theorem d_z_wordDistance_18 : decode M_z_wordDistance.2.1 18 = .ok (.aaload, 1) := by decide +kernel
theorem d_z_wordDistance_19 : decode M_z_wordDistance.2.1 19 = .ok (.aload_n 3, 1) := by decide +kernel
theorem d_z_wordDistance_20 : decode M_z_wordDistance.2.1 20 = .ok (.iload_n 1, 1) := by decide +kernel
theorem d_z_wordDistance_21 : decode M_z_wordDistance.2.1 21 = .ok (.iload 4, 2) := by decide +kernel
theorem d_z_wordDistance_23 : decode M_z_wordDistance.2.1 23 = .ok (.imul, 1) := by decide +kernel
theorem d_z_wordDistance_24 : decode M_z_wordDistance.2.1 24 = .ok (.iload 4, 2) := by decide +kernel
theorem d_z_wordDistance_26 : decode M_z_wordDistance.2.1 26 = .ok (.invokestatic 56, 3) := by decide +kernel
theorem d_z_wordDistance_29 : decode M_z_wordDistance.2.1 29 = .ok (.ireturn, 1) := by decide +kernel
theorem d_q_centre_0 : decode M_q_centre.2.1 0 = .ok (.aload_n 0, 1) := by decide +kernel
theorem d_q_centre_1 : decode M_q_centre.2.1 1 = .ok (.getfield 33, 3) := by decide +kernel
theorem d_q_centre_4 : decode M_q_centre.2.1 4 = .ok (.iload_n 1, 1) := by decide +kernel
theorem d_q_centre_5 : decode M_q_centre.2.1 5 = .ok (.invokevirtual 107, 3) := by decide +kernel
theorem d_q_centre_8 : decode M_q_centre.2.1 8 = .ok (.ifCond .eq 12, 3) := by decide +kernel
theorem d_q_centre_11 : decode M_q_centre.2.1 11 = .ok (.iload_n 2, 1) := by decide +kernel
theorem d_q_centre_12 : decode M_q_centre.2.1 12 = .ok (.iconst 0, 1) := by decide +kernel
theorem d_q_centre_13 : decode M_q_centre.2.1 13 = .ok (.iconst 3, 1) := by decide +kernel
theorem d_q_centre_14 : decode M_q_centre.2.1 14 = .ok (.invokestatic 86, 3) := by decide +kernel
theorem d_q_centre_17 : decode M_q_centre.2.1 17 = .ok (.ifCond .ne 7, 3) := by decide +kernel
theorem d_q_centre_20 : decode M_q_centre.2.1 20 = .ok (.sipush (-1000), 3) := by decide +kernel
theorem d_q_centre_23 : decode M_q_centre.2.1 23 = .ok (.ireturn, 1) := by decide +kernel
theorem d_q_centre_24 : decode M_q_centre.2.1 24 = .ok (.aload_n 0, 1) := by decide +kernel
theorem d_q_centre_25 : decode M_q_centre.2.1 25 = .ok (.getfield 33, 3) := by decide +kernel
theorem d_q_centre_28 : decode M_q_centre.2.1 28 = .ok (.getfield 111, 3) := by decide +kernel
theorem d_q_centre_31 : decode M_q_centre.2.1 31 = .ok (.iload_n 1, 1) := by decide +kernel
theorem d_q_centre_32 : decode M_q_centre.2.1 32 = .ok (.aaload, 1) := by decide +kernel
theorem d_q_centre_33 : decode M_q_centre.2.1 33 = .ok (.iload_n 2, 1) := by decide +kernel
theorem d_q_centre_34 : decode M_q_centre.2.1 34 = .ok (.iaload, 1) := by decide +kernel
theorem d_q_centre_35 : decode M_q_centre.2.1 35 = .ok (.ireturn, 1) := by decide +kernel
theorem d_z_hasList_0 : decode M_z_hasList.2.1 0 = .ok (.aload_n 0, 1) := by decide +kernel
theorem d_z_hasList_1 : decode M_z_hasList.2.1 1 = .ok (.getfield 23, 3) := by decide +kernel
theorem d_z_hasList_4 : decode M_z_hasList.2.1 4 = .ok (.ifCond .eq 21, 3) := by decide +kernel
theorem d_z_hasList_7 : decode M_z_hasList.2.1 7 = .ok (.iload_n 1, 1) := by decide +kernel
theorem d_z_hasList_8 : decode M_z_hasList.2.1 8 = .ok (.iconst 0, 1) := by decide +kernel
theorem d_z_hasList_9 : decode M_z_hasList.2.1 9 = .ok (.aload_n 0, 1) := by decide +kernel
theorem d_z_hasList_10 : decode M_z_hasList.2.1 10 = .ok (.getfield 31, 3) := by decide +kernel
theorem d_z_hasList_13 : decode M_z_hasList.2.1 13 = .ok (.iconst 1, 1) := by decide +kernel
theorem d_z_hasList_14 : decode M_z_hasList.2.1 14 = .ok (.isub, 1) := by decide +kernel
theorem d_z_hasList_15 : decode M_z_hasList.2.1 15 = .ok (.invokestatic 37, 3) := by decide +kernel
theorem d_z_hasList_18 : decode M_z_hasList.2.1 18 = .ok (.ifCond .eq 7, 3) := by decide +kernel
theorem d_z_hasList_21 : decode M_z_hasList.2.1 21 = .ok (.iconst 1, 1) := by decide +kernel
theorem d_z_hasList_22 : decode M_z_hasList.2.1 22 = .ok (.goto 4, 3) := by decide +kernel
theorem d_z_hasList_25 : decode M_z_hasList.2.1 25 = .ok (.iconst 0, 1) := by decide +kernel
theorem d_z_hasList_26 : decode M_z_hasList.2.1 26 = .ok (.ireturn, 1) := by decide +kernel
theorem d_q_word_0 : decode M_q_word.2.1 0 = .ok (.aload_n 0, 1) := by decide +kernel
theorem d_q_word_1 : decode M_q_word.2.1 1 = .ok (.getfield 33, 3) := by decide +kernel
theorem d_q_word_4 : decode M_q_word.2.1 4 = .ok (.iload_n 1, 1) := by decide +kernel
theorem d_q_word_5 : decode M_q_word.2.1 5 = .ok (.iload_n 2, 1) := by decide +kernel
theorem d_q_word_6 : decode M_q_word.2.1 6 = .ok (.invokevirtual 114, 3) := by decide +kernel
theorem d_q_word_9 : decode M_q_word.2.1 9 = .ok (.ifCond .eq 23, 3) := by decide +kernel
theorem d_q_word_12 : decode M_q_word.2.1 12 = .ok (.iload_n 3, 1) := by decide +kernel
theorem d_q_word_13 : decode M_q_word.2.1 13 = .ok (.iconst 0, 1) := by decide +kernel
theorem d_q_word_14 : decode M_q_word.2.1 14 = .ok (.aload_n 0, 1) := by decide +kernel
theorem d_q_word_15 : decode M_q_word.2.1 15 = .ok (.getfield 33, 3) := by decide +kernel
theorem d_q_word_18 : decode M_q_word.2.1 18 = .ok (.getfield 118, 3) := by decide +kernel
theorem d_q_word_21 : decode M_q_word.2.1 21 = .ok (.invokestatic 121, 3) := by decide +kernel
theorem d_q_word_24 : decode M_q_word.2.1 24 = .ok (.iconst 1, 1) := by decide +kernel
theorem d_q_word_25 : decode M_q_word.2.1 25 = .ok (.isub, 1) := by decide +kernel
theorem d_q_word_26 : decode M_q_word.2.1 26 = .ok (.invokestatic 86, 3) := by decide +kernel
theorem d_q_word_29 : decode M_q_word.2.1 29 = .ok (.ifCond .ne 7, 3) := by decide +kernel
theorem d_q_word_32 : decode M_q_word.2.1 32 = .ok (.sipush (-1000), 3) := by decide +kernel
theorem d_q_word_35 : decode M_q_word.2.1 35 = .ok (.ireturn, 1) := by decide +kernel
theorem d_q_word_36 : decode M_q_word.2.1 36 = .ok (.aload_n 0, 1) := by decide +kernel
theorem d_q_word_37 : decode M_q_word.2.1 37 = .ok (.getfield 33, 3) := by decide +kernel
theorem d_q_word_40 : decode M_q_word.2.1 40 = .ok (.getfield 125, 3) := by decide +kernel
theorem d_q_word_43 : decode M_q_word.2.1 43 = .ok (.iload_n 1, 1) := by decide +kernel
theorem d_q_word_44 : decode M_q_word.2.1 44 = .ok (.iload_n 2, 1) := by decide +kernel
theorem d_q_word_45 : decode M_q_word.2.1 45 = .ok (.invokestatic 128, 3) := by decide +kernel
theorem d_q_word_48 : decode M_q_word.2.1 48 = .ok (.aaload, 1) := by decide +kernel
theorem d_q_word_49 : decode M_q_word.2.1 49 = .ok (.iload_n 3, 1) := by decide +kernel
theorem d_q_word_50 : decode M_q_word.2.1 50 = .ok (.iaload, 1) := by decide +kernel
theorem d_q_word_51 : decode M_q_word.2.1 51 = .ok (.ireturn, 1) := by decide +kernel
theorem d_z_hasWord_0 : decode M_z_hasWord.2.1 0 = .ok (.aload_n 0, 1) := by decide +kernel
theorem d_z_hasWord_1 : decode M_z_hasWord.2.1 1 = .ok (.getfield 23, 3) := by decide +kernel
theorem d_z_hasWord_4 : decode M_z_hasWord.2.1 4 = .ok (.ifCond .eq 38, 3) := by decide +kernel
theorem d_z_hasWord_7 : decode M_z_hasWord.2.1 7 = .ok (.iload_n 1, 1) := by decide +kernel
theorem d_z_hasWord_8 : decode M_z_hasWord.2.1 8 = .ok (.iconst 0, 1) := by decide +kernel
theorem d_z_hasWord_9 : decode M_z_hasWord.2.1 9 = .ok (.aload_n 0, 1) := by decide +kernel
theorem d_z_hasWord_10 : decode M_z_hasWord.2.1 10 = .ok (.getfield 27, 3) := by decide +kernel
theorem d_z_hasWord_13 : decode M_z_hasWord.2.1 13 = .ok (.invokestatic 41, 3) := by decide +kernel
theorem d_z_hasWord_16 : decode M_z_hasWord.2.1 16 = .ok (.iconst 1, 1) := by decide +kernel
theorem d_z_hasWord_17 : decode M_z_hasWord.2.1 17 = .ok (.isub, 1) := by decide +kernel
theorem d_z_hasWord_18 : decode M_z_hasWord.2.1 18 = .ok (.invokestatic 37, 3) := by decide +kernel
theorem d_z_hasWord_21 : decode M_z_hasWord.2.1 21 = .ok (.ifCond .eq 21, 3) := by decide +kernel
theorem d_z_hasWord_24 : decode M_z_hasWord.2.1 24 = .ok (.iload_n 2, 1) := by decide +kernel
theorem d_z_hasWord_25 : decode M_z_hasWord.2.1 25 = .ok (.iconst 0, 1) := by decide +kernel
theorem d_z_hasWord_26 : decode M_z_hasWord.2.1 26 = .ok (.aload_n 0, 1) := by decide +kernel
theorem d_z_hasWord_27 : decode M_z_hasWord.2.1 27 = .ok (.getfield 34, 3) := by decide +kernel
theorem d_z_hasWord_30 : decode M_z_hasWord.2.1 30 = .ok (.iconst 1, 1) := by decide +kernel
theorem d_z_hasWord_31 : decode M_z_hasWord.2.1 31 = .ok (.isub, 1) := by decide +kernel
theorem d_z_hasWord_32 : decode M_z_hasWord.2.1 32 = .ok (.invokestatic 37, 3) := by decide +kernel
theorem d_z_hasWord_35 : decode M_z_hasWord.2.1 35 = .ok (.ifCond .eq 7, 3) := by decide +kernel
theorem d_z_hasWord_38 : decode M_z_hasWord.2.1 38 = .ok (.iconst 1, 1) := by decide +kernel
theorem d_z_hasWord_39 : decode M_z_hasWord.2.1 39 = .ok (.goto 4, 3) := by decide +kernel
theorem d_z_hasWord_42 : decode M_z_hasWord.2.1 42 = .ok (.iconst 0, 1) := by decide +kernel
theorem d_z_hasWord_43 : decode M_z_hasWord.2.1 43 = .ok (.ireturn, 1) := by decide +kernel
theorem d_q_add_0 : decode M_q_add.2.1 0 = .ok (.aload_n 0, 1) := by decide +kernel
theorem d_q_add_1 : decode M_q_add.2.1 1 = .ok (.getfield 33, 3) := by decide +kernel
theorem d_q_add_4 : decode M_q_add.2.1 4 = .ok (.getfield 62, 3) := by decide +kernel
theorem d_q_add_7 : decode M_q_add.2.1 7 = .ok (.ifCond .ne 5, 3) := by decide +kernel
theorem d_q_add_10 : decode M_q_add.2.1 10 = .ok (.iconst (-1), 1) := by decide +kernel
theorem d_q_add_11 : decode M_q_add.2.1 11 = .ok (.ireturn, 1) := by decide +kernel
theorem d_q_add_12 : decode M_q_add.2.1 12 = .ok (.iload_n 1, 1) := by decide +kernel
theorem d_q_add_13 : decode M_q_add.2.1 13 = .ok (.iconst 0, 1) := by decide +kernel
theorem d_q_add_14 : decode M_q_add.2.1 14 = .ok (.sipush 999, 3) := by decide +kernel
theorem d_q_add_17 : decode M_q_add.2.1 17 = .ok (.invokestatic 86, 3) := by decide +kernel
theorem d_q_add_20 : decode M_q_add.2.1 20 = .ok (.ifCond .ne 6, 3) := by decide +kernel
theorem d_q_add_23 : decode M_q_add.2.1 23 = .ok (.bipush (-2), 2) := by decide +kernel
theorem d_q_add_25 : decode M_q_add.2.1 25 = .ok (.ireturn, 1) := by decide +kernel
theorem d_q_add_26 : decode M_q_add.2.1 26 = .ok (.iload_n 2, 1) := by decide +kernel
theorem d_q_add_27 : decode M_q_add.2.1 27 = .ok (.iload_n 3, 1) := by decide +kernel
theorem d_q_add_28 : decode M_q_add.2.1 28 = .ok (.iload 4, 2) := by decide +kernel
theorem d_q_add_30 : decode M_q_add.2.1 30 = .ok (.iload 5, 2) := by decide +kernel
theorem d_q_add_32 : decode M_q_add.2.1 32 = .ok (.invokestatic 70, 3) := by decide +kernel
theorem d_q_add_35 : decode M_q_add.2.1 35 = .ok (.ifCond .eq 6, 3) := by decide +kernel
theorem d_q_add_38 : decode M_q_add.2.1 38 = .ok (.bipush (-3), 2) := by decide +kernel
theorem d_q_add_40 : decode M_q_add.2.1 40 = .ok (.ireturn, 1) := by decide +kernel
theorem d_q_add_41 : decode M_q_add.2.1 41 = .ok (.aload_n 0, 1) := by decide +kernel
theorem d_q_add_42 : decode M_q_add.2.1 42 = .ok (.getfield 40, 3) := by decide +kernel
theorem d_q_add_45 : decode M_q_add.2.1 45 = .ok (.iload_n 1, 1) := by decide +kernel
theorem d_q_add_46 : decode M_q_add.2.1 46 = .ok (.invokevirtual 132, 3) := by decide +kernel
theorem d_q_add_49 : decode M_q_add.2.1 49 = .ok (.iconst (-1), 1) := by decide +kernel
theorem d_q_add_50 : decode M_q_add.2.1 50 = .ok (.if_icmp .eq 6, 3) := by decide +kernel
theorem d_q_add_53 : decode M_q_add.2.1 53 = .ok (.bipush (-4), 2) := by decide +kernel
theorem d_q_add_55 : decode M_q_add.2.1 55 = .ok (.ireturn, 1) := by decide +kernel
theorem d_q_add_56 : decode M_q_add.2.1 56 = .ok (.aload_n 0, 1) := by decide +kernel
theorem d_q_add_57 : decode M_q_add.2.1 57 = .ok (.getfield 40, 3) := by decide +kernel
theorem d_q_add_60 : decode M_q_add.2.1 60 = .ok (.getfield 85, 3) := by decide +kernel
theorem d_q_add_63 : decode M_q_add.2.1 63 = .ok (.bipush 20, 2) := by decide +kernel
theorem d_q_add_65 : decode M_q_add.2.1 65 = .ok (.if_icmp .lt 6, 3) := by decide +kernel
theorem d_q_add_68 : decode M_q_add.2.1 68 = .ok (.bipush (-5), 2) := by decide +kernel
theorem d_q_add_70 : decode M_q_add.2.1 70 = .ok (.ireturn, 1) := by decide +kernel
theorem d_q_add_71 : decode M_q_add.2.1 71 = .ok (.aload_n 0, 1) := by decide +kernel
theorem d_q_add_72 : decode M_q_add.2.1 72 = .ok (.iload_n 1, 1) := by decide +kernel
theorem d_q_add_73 : decode M_q_add.2.1 73 = .ok (.iload_n 2, 1) := by decide +kernel
theorem d_q_add_74 : decode M_q_add.2.1 74 = .ok (.iload_n 3, 1) := by decide +kernel
theorem d_q_add_75 : decode M_q_add.2.1 75 = .ok (.iload 4, 2) := by decide +kernel
theorem d_q_add_77 : decode M_q_add.2.1 77 = .ok (.iload 5, 2) := by decide +kernel
theorem d_q_add_79 : decode M_q_add.2.1 79 = .ok (.invokevirtual 135, 3) := by decide +kernel
theorem d_q_add_82 : decode M_q_add.2.1 82 = .ok (.ireturn, 1) := by decide +kernel
theorem d_b_placeOf_0 : decode M_b_placeOf.2.1 0 = .ok (.iconst 0, 1) := by decide +kernel
theorem d_b_placeOf_1 : decode M_b_placeOf.2.1 1 = .ok (.istore_n 2, 1) := by decide +kernel
theorem d_b_placeOf_2 : decode M_b_placeOf.2.1 2 = .ok (.iload_n 2, 1) := by decide +kernel
theorem d_b_placeOf_3 : decode M_b_placeOf.2.1 3 = .ok (.aload_n 0, 1) := by decide +kernel
theorem d_b_placeOf_4 : decode M_b_placeOf.2.1 4 = .ok (.getfield 18, 3) := by decide +kernel
theorem d_b_placeOf_7 : decode M_b_placeOf.2.1 7 = .ok (.if_icmp .ge 24, 3) := by decide +kernel
theorem d_b_placeOf_10 : decode M_b_placeOf.2.1 10 = .ok (.aload_n 0, 1) := by decide +kernel
theorem d_b_placeOf_11 : decode M_b_placeOf.2.1 11 = .ok (.getfield 11, 3) := by decide +kernel
theorem d_b_placeOf_14 : decode M_b_placeOf.2.1 14 = .ok (.iload_n 2, 1) := by decide +kernel
theorem d_b_placeOf_15 : decode M_b_placeOf.2.1 15 = .ok (.aaload, 1) := by decide +kernel
theorem d_b_placeOf_16 : decode M_b_placeOf.2.1 16 = .ok (.getfield 22, 3) := by decide +kernel
theorem d_b_placeOf_19 : decode M_b_placeOf.2.1 19 = .ok (.iload_n 1, 1) := by decide +kernel
theorem d_b_placeOf_20 : decode M_b_placeOf.2.1 20 = .ok (.if_icmp .ne 5, 3) := by decide +kernel
theorem d_b_placeOf_23 : decode M_b_placeOf.2.1 23 = .ok (.iload_n 2, 1) := by decide +kernel
theorem d_b_placeOf_24 : decode M_b_placeOf.2.1 24 = .ok (.ireturn, 1) := by decide +kernel
theorem d_b_placeOf_25 : decode M_b_placeOf.2.1 25 = .ok (.iinc 2 1, 3) := by decide +kernel
theorem d_b_placeOf_28 : decode M_b_placeOf.2.1 28 = .ok (.goto (-26), 3) := by decide +kernel
theorem d_b_placeOf_31 : decode M_b_placeOf.2.1 31 = .ok (.iconst (-1), 1) := by decide +kernel
theorem d_b_placeOf_32 : decode M_b_placeOf.2.1 32 = .ok (.ireturn, 1) := by decide +kernel
theorem d_q_putEntry_0 : decode M_q_putEntry.2.1 0 = .ok (.aload_n 0, 1) := by decide +kernel
theorem d_q_putEntry_1 : decode M_q_putEntry.2.1 1 = .ok (.getfield 40, 3) := by decide +kernel
theorem d_q_putEntry_4 : decode M_q_putEntry.2.1 4 = .ok (.getfield 142, 3) := by decide +kernel
theorem d_q_putEntry_7 : decode M_q_putEntry.2.1 7 = .ok (.aload_n 0, 1) := by decide +kernel
theorem d_q_putEntry_8 : decode M_q_putEntry.2.1 8 = .ok (.getfield 40, 3) := by decide +kernel
theorem d_q_putEntry_11 : decode M_q_putEntry.2.1 11 = .ok (.iload_n 1, 1) := by decide +kernel
theorem d_q_putEntry_12 : decode M_q_putEntry.2.1 12 = .ok (.invokevirtual 280, 3) := by decide +kernel
theorem d_q_putEntry_15 : decode M_q_putEntry.2.1 15 = .ok (.aaload, 1) := by decide +kernel
theorem d_q_putEntry_16 : decode M_q_putEntry.2.1 16 = .ok (.astore 6, 2) := by decide +kernel
theorem d_q_putEntry_18 : decode M_q_putEntry.2.1 18 = .ok (.aload 6, 2) := by decide +kernel
theorem d_q_putEntry_20 : decode M_q_putEntry.2.1 20 = .ok (.getfield 283, 3) := by decide +kernel
theorem d_q_putEntry_23 : decode M_q_putEntry.2.1 23 = .ok (.iload_n 2, 1) := by decide +kernel
theorem d_q_putEntry_24 : decode M_q_putEntry.2.1 24 = .ok (.iload_n 3, 1) := by decide +kernel
theorem d_q_putEntry_25 : decode M_q_putEntry.2.1 25 = .ok (.iload 4, 2) := by decide +kernel
theorem d_q_putEntry_27 : decode M_q_putEntry.2.1 27 = .ok (.iload 5, 2) := by decide +kernel
theorem d_q_putEntry_29 : decode M_q_putEntry.2.1 29 = .ok (.invokestatic 81, 3) := by decide +kernel
theorem d_q_putEntry_32 : decode M_q_putEntry.2.1 32 = .ok (.aload_n 0, 1) := by decide +kernel
theorem d_q_putEntry_33 : decode M_q_putEntry.2.1 33 = .ok (.getfield 10, 3) := by decide +kernel
theorem d_q_putEntry_36 : decode M_q_putEntry.2.1 36 = .ok (.aload 6, 2) := by decide +kernel
theorem d_q_putEntry_38 : decode M_q_putEntry.2.1 38 = .ok (.getfield 283, 3) := by decide +kernel
theorem d_q_putEntry_41 : decode M_q_putEntry.2.1 41 = .ok (.aload 6, 2) := by decide +kernel
theorem d_q_putEntry_43 : decode M_q_putEntry.2.1 43 = .ok (.getfield 284, 3) := by decide +kernel
theorem d_q_putEntry_46 : decode M_q_putEntry.2.1 46 = .ok (.invokevirtual 171, 3) := by decide +kernel
theorem d_q_putEntry_49 : decode M_q_putEntry.2.1 49 = .ok (.aload_n 0, 1) := by decide +kernel
theorem d_q_putEntry_50 : decode M_q_putEntry.2.1 50 = .ok (.getfield 33, 3) := by decide +kernel
theorem d_q_putEntry_53 : decode M_q_putEntry.2.1 53 = .ok (.aload 6, 2) := by decide +kernel
theorem d_q_putEntry_55 : decode M_q_putEntry.2.1 55 = .ok (.invokevirtual 287, 3) := by decide +kernel
theorem d_q_putEntry_58 : decode M_q_putEntry.2.1 58 = .ok (.aload 6, 2) := by decide +kernel
theorem d_q_putEntry_60 : decode M_q_putEntry.2.1 60 = .ok (.getfield 146, 3) := by decide +kernel
theorem d_q_putEntry_63 : decode M_q_putEntry.2.1 63 = .ok (.ireturn, 1) := by decide +kernel
theorem d_b_makeRoom_0 : decode M_b_makeRoom.2.1 0 = .ok (.aload_n 0, 1) := by decide +kernel
theorem d_b_makeRoom_1 : decode M_b_makeRoom.2.1 1 = .ok (.getfield 11, 3) := by decide +kernel
theorem d_b_makeRoom_4 : decode M_b_makeRoom.2.1 4 = .ok (.aload_n 0, 1) := by decide +kernel
theorem d_b_makeRoom_5 : decode M_b_makeRoom.2.1 5 = .ok (.getfield 18, 3) := by decide +kernel
theorem d_b_makeRoom_8 : decode M_b_makeRoom.2.1 8 = .ok (.aaload, 1) := by decide +kernel
theorem d_b_makeRoom_9 : decode M_b_makeRoom.2.1 9 = .ok (.astore_n 2, 1) := by decide +kernel
theorem d_b_makeRoom_10 : decode M_b_makeRoom.2.1 10 = .ok (.aload_n 2, 1) := by decide +kernel
theorem d_b_makeRoom_11 : decode M_b_makeRoom.2.1 11 = .ok (.iload_n 1, 1) := by decide +kernel
theorem d_b_makeRoom_12 : decode M_b_makeRoom.2.1 12 = .ok (.putfield 22, 3) := by decide +kernel
theorem d_b_makeRoom_15 : decode M_b_makeRoom.2.1 15 = .ok (.aload_n 0, 1) := by decide +kernel
theorem d_b_makeRoom_16 : decode M_b_makeRoom.2.1 16 = .ok (.getfield 18, 3) := by decide +kernel
theorem d_b_makeRoom_19 : decode M_b_makeRoom.2.1 19 = .ok (.istore_n 3, 1) := by decide +kernel
theorem d_b_makeRoom_20 : decode M_b_makeRoom.2.1 20 = .ok (.iload_n 3, 1) := by decide +kernel
theorem d_b_makeRoom_21 : decode M_b_makeRoom.2.1 21 = .ok (.ifCond .le 38, 3) := by decide +kernel
theorem d_b_makeRoom_24 : decode M_b_makeRoom.2.1 24 = .ok (.aload_n 0, 1) := by decide +kernel
theorem d_b_makeRoom_25 : decode M_b_makeRoom.2.1 25 = .ok (.getfield 11, 3) := by decide +kernel
theorem d_b_makeRoom_28 : decode M_b_makeRoom.2.1 28 = .ok (.iload_n 3, 1) := by decide +kernel
theorem d_b_makeRoom_29 : decode M_b_makeRoom.2.1 29 = .ok (.iconst 1, 1) := by decide +kernel
theorem d_b_makeRoom_30 : decode M_b_makeRoom.2.1 30 = .ok (.isub, 1) := by decide +kernel
theorem d_b_makeRoom_31 : decode M_b_makeRoom.2.1 31 = .ok (.aaload, 1) := by decide +kernel
theorem d_b_makeRoom_32 : decode M_b_makeRoom.2.1 32 = .ok (.getfield 22, 3) := by decide +kernel
theorem d_b_makeRoom_35 : decode M_b_makeRoom.2.1 35 = .ok (.iload_n 1, 1) := by decide +kernel
theorem d_b_makeRoom_36 : decode M_b_makeRoom.2.1 36 = .ok (.if_icmp .le 23, 3) := by decide +kernel
theorem d_b_makeRoom_39 : decode M_b_makeRoom.2.1 39 = .ok (.aload_n 0, 1) := by decide +kernel
theorem d_b_makeRoom_40 : decode M_b_makeRoom.2.1 40 = .ok (.getfield 11, 3) := by decide +kernel
theorem d_b_makeRoom_43 : decode M_b_makeRoom.2.1 43 = .ok (.iload_n 3, 1) := by decide +kernel
theorem d_b_makeRoom_44 : decode M_b_makeRoom.2.1 44 = .ok (.aload_n 0, 1) := by decide +kernel
theorem d_b_makeRoom_45 : decode M_b_makeRoom.2.1 45 = .ok (.getfield 11, 3) := by decide +kernel
theorem d_b_makeRoom_48 : decode M_b_makeRoom.2.1 48 = .ok (.iload_n 3, 1) := by decide +kernel
theorem d_b_makeRoom_49 : decode M_b_makeRoom.2.1 49 = .ok (.iconst 1, 1) := by decide +kernel
theorem d_b_makeRoom_50 : decode M_b_makeRoom.2.1 50 = .ok (.isub, 1) := by decide +kernel
theorem d_b_makeRoom_51 : decode M_b_makeRoom.2.1 51 = .ok (.aaload, 1) := by decide +kernel
theorem d_b_makeRoom_52 : decode M_b_makeRoom.2.1 52 = .ok (.aastore, 1) := by decide +kernel
theorem d_b_makeRoom_53 : decode M_b_makeRoom.2.1 53 = .ok (.iinc 3 (-1), 3) := by decide +kernel
theorem d_b_makeRoom_56 : decode M_b_makeRoom.2.1 56 = .ok (.goto (-36), 3) := by decide +kernel
theorem d_b_makeRoom_59 : decode M_b_makeRoom.2.1 59 = .ok (.aload_n 0, 1) := by decide +kernel
theorem d_b_makeRoom_60 : decode M_b_makeRoom.2.1 60 = .ok (.getfield 11, 3) := by decide +kernel
theorem d_b_makeRoom_63 : decode M_b_makeRoom.2.1 63 = .ok (.iload_n 3, 1) := by decide +kernel
theorem d_b_makeRoom_64 : decode M_b_makeRoom.2.1 64 = .ok (.aload_n 2, 1) := by decide +kernel
theorem d_b_makeRoom_65 : decode M_b_makeRoom.2.1 65 = .ok (.aastore, 1) := by decide +kernel
theorem d_b_makeRoom_66 : decode M_b_makeRoom.2.1 66 = .ok (.aload_n 0, 1) := by decide +kernel
theorem d_b_makeRoom_67 : decode M_b_makeRoom.2.1 67 = .ok (.dup, 1) := by decide +kernel
theorem d_b_makeRoom_68 : decode M_b_makeRoom.2.1 68 = .ok (.getfield 18, 3) := by decide +kernel
theorem d_b_makeRoom_71 : decode M_b_makeRoom.2.1 71 = .ok (.iconst 1, 1) := by decide +kernel
theorem d_b_makeRoom_72 : decode M_b_makeRoom.2.1 72 = .ok (.iadd, 1) := by decide +kernel
theorem d_b_makeRoom_73 : decode M_b_makeRoom.2.1 73 = .ok (.putfield 18, 3) := by decide +kernel
theorem d_b_makeRoom_76 : decode M_b_makeRoom.2.1 76 = .ok (.iload_n 3, 1) := by decide +kernel
theorem d_b_makeRoom_77 : decode M_b_makeRoom.2.1 77 = .ok (.ireturn, 1) := by decide +kernel
theorem d_z_encode_0 : decode M_z_encode.2.1 0 = .ok (.aload_n 1, 1) := by decide +kernel
theorem d_z_encode_1 : decode M_z_encode.2.1 1 = .ok (.aload_n 0, 1) := by decide +kernel
theorem d_z_encode_2 : decode M_z_encode.2.1 2 = .ok (.aload_n 1, 1) := by decide +kernel
theorem d_z_encode_3 : decode M_z_encode.2.1 3 = .ok (.getfield 60, 3) := by decide +kernel
theorem d_z_encode_6 : decode M_z_encode.2.1 6 = .ok (.invokevirtual 65, 3) := by decide +kernel
theorem d_z_encode_9 : decode M_z_encode.2.1 9 = .ok (.putfield 69, 3) := by decide +kernel
theorem d_z_encode_12 : decode M_z_encode.2.1 12 = .ok (.aload_n 1, 1) := by decide +kernel
theorem d_z_encode_13 : decode M_z_encode.2.1 13 = .ok (.getfield 60, 3) := by decide +kernel
theorem d_z_encode_16 : decode M_z_encode.2.1 16 = .ok (.aload_n 0, 1) := by decide +kernel
theorem d_z_encode_17 : decode M_z_encode.2.1 17 = .ok (.getfield 11, 3) := by decide +kernel
theorem d_z_encode_20 : decode M_z_encode.2.1 20 = .ok (.aload_n 1, 1) := by decide +kernel
theorem d_z_encode_21 : decode M_z_encode.2.1 21 = .ok (.getfield 69, 3) := by decide +kernel
theorem d_z_encode_24 : decode M_z_encode.2.1 24 = .ok (.aaload, 1) := by decide +kernel
theorem d_z_encode_25 : decode M_z_encode.2.1 25 = .ok (.aload_n 0, 1) := by decide +kernel
theorem d_z_encode_26 : decode M_z_encode.2.1 26 = .ok (.getfield 19, 3) := by decide +kernel
theorem d_z_encode_29 : decode M_z_encode.2.1 29 = .ok (.invokestatic 72, 3) := by decide +kernel
theorem d_z_encode_32 : decode M_z_encode.2.1 32 = .ok (.iconst 0, 1) := by decide +kernel
theorem d_z_encode_33 : decode M_z_encode.2.1 33 = .ok (.istore_n 2, 1) := by decide +kernel
theorem d_z_encode_34 : decode M_z_encode.2.1 34 = .ok (.iload_n 2, 1) := by decide +kernel
theorem d_z_encode_35 : decode M_z_encode.2.1 35 = .ok (.aload_n 0, 1) := by decide +kernel
theorem d_z_encode_36 : decode M_z_encode.2.1 36 = .ok (.getfield 27, 3) := by decide +kernel
theorem d_z_encode_39 : decode M_z_encode.2.1 39 = .ok (.invokestatic 41, 3) := by decide +kernel
theorem d_z_encode_42 : decode M_z_encode.2.1 42 = .ok (.if_icmp .ge 24, 3) := by decide +kernel
theorem d_z_encode_45 : decode M_z_encode.2.1 45 = .ok (.aload_n 1, 1) := by decide +kernel
theorem d_z_encode_46 : decode M_z_encode.2.1 46 = .ok (.getfield 76, 3) := by decide +kernel
theorem d_z_encode_49 : decode M_z_encode.2.1 49 = .ok (.iload_n 2, 1) := by decide +kernel
theorem d_z_encode_50 : decode M_z_encode.2.1 50 = .ok (.aload_n 0, 1) := by decide +kernel
theorem d_z_encode_51 : decode M_z_encode.2.1 51 = .ok (.iload_n 2, 1) := by decide +kernel
theorem d_z_encode_52 : decode M_z_encode.2.1 52 = .ok (.aload_n 0, 1) := by decide +kernel
theorem d_z_encode_53 : decode M_z_encode.2.1 53 = .ok (.getfield 19, 3) := by decide +kernel
theorem d_z_encode_56 : decode M_z_encode.2.1 56 = .ok (.invokevirtual 79, 3) := by decide +kernel
theorem d_z_encode_59 : decode M_z_encode.2.1 59 = .ok (.iastore, 1) := by decide +kernel
theorem d_z_encode_60 : decode M_z_encode.2.1 60 = .ok (.iinc 2 1, 3) := by decide +kernel
theorem d_z_encode_63 : decode M_z_encode.2.1 63 = .ok (.goto (-29), 3) := by decide +kernel
