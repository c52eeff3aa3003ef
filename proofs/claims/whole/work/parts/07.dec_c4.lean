theorem d_z_encode_66 : decode M_z_encode.2.1 66 = .ok (.return_, 1) := by decide +kernel
theorem d_q_remove_0 : decode M_q_remove.2.1 0 = .ok (.aload_n 0, 1) := by decide +kernel
theorem d_q_remove_1 : decode M_q_remove.2.1 1 = .ok (.getfield 40, 3) := by decide +kernel
theorem d_q_remove_4 : decode M_q_remove.2.1 4 = .ok (.iload_n 1, 1) := by decide +kernel
theorem d_q_remove_5 : decode M_q_remove.2.1 5 = .ok (.invokevirtual 132, 3) := by decide +kernel
theorem d_q_remove_8 : decode M_q_remove.2.1 8 = .ok (.istore_n 2, 1) := by decide +kernel
theorem d_q_remove_9 : decode M_q_remove.2.1 9 = .ok (.iload_n 2, 1) := by decide +kernel
theorem d_q_remove_10 : decode M_q_remove.2.1 10 = .ok (.iconst (-1), 1) := by decide +kernel
theorem d_q_remove_11 : decode M_q_remove.2.1 11 = .ok (.if_icmp .ne 5, 3) := by decide +kernel
theorem d_q_remove_14 : decode M_q_remove.2.1 14 = .ok (.iconst 0, 1) := by decide +kernel
theorem d_q_remove_15 : decode M_q_remove.2.1 15 = .ok (.ireturn, 1) := by decide +kernel
theorem d_q_remove_16 : decode M_q_remove.2.1 16 = .ok (.aload_n 0, 1) := by decide +kernel
theorem d_q_remove_17 : decode M_q_remove.2.1 17 = .ok (.getfield 40, 3) := by decide +kernel
theorem d_q_remove_20 : decode M_q_remove.2.1 20 = .ok (.iload_n 2, 1) := by decide +kernel
theorem d_q_remove_21 : decode M_q_remove.2.1 21 = .ok (.invokevirtual 139, 3) := by decide +kernel
theorem d_q_remove_24 : decode M_q_remove.2.1 24 = .ok (.iconst 1, 1) := by decide +kernel
theorem d_q_remove_25 : decode M_q_remove.2.1 25 = .ok (.ireturn, 1) := by decide +kernel
theorem d_b_drop_0 : decode M_b_drop.2.1 0 = .ok (.aload_n 0, 1) := by decide +kernel
theorem d_b_drop_1 : decode M_b_drop.2.1 1 = .ok (.getfield 11, 3) := by decide +kernel
theorem d_b_drop_4 : decode M_b_drop.2.1 4 = .ok (.iload_n 1, 1) := by decide +kernel
theorem d_b_drop_5 : decode M_b_drop.2.1 5 = .ok (.aaload, 1) := by decide +kernel
theorem d_b_drop_6 : decode M_b_drop.2.1 6 = .ok (.astore_n 2, 1) := by decide +kernel
theorem d_b_drop_7 : decode M_b_drop.2.1 7 = .ok (.aload_n 0, 1) := by decide +kernel
theorem d_b_drop_8 : decode M_b_drop.2.1 8 = .ok (.dup, 1) := by decide +kernel
theorem d_b_drop_9 : decode M_b_drop.2.1 9 = .ok (.getfield 18, 3) := by decide +kernel
theorem d_b_drop_12 : decode M_b_drop.2.1 12 = .ok (.iconst 1, 1) := by decide +kernel
theorem d_b_drop_13 : decode M_b_drop.2.1 13 = .ok (.isub, 1) := by decide +kernel
theorem d_b_drop_14 : decode M_b_drop.2.1 14 = .ok (.putfield 18, 3) := by decide +kernel
theorem d_b_drop_17 : decode M_b_drop.2.1 17 = .ok (.iload_n 1, 1) := by decide +kernel
theorem d_b_drop_18 : decode M_b_drop.2.1 18 = .ok (.istore_n 3, 1) := by decide +kernel
theorem d_b_drop_19 : decode M_b_drop.2.1 19 = .ok (.iload_n 3, 1) := by decide +kernel
theorem d_b_drop_20 : decode M_b_drop.2.1 20 = .ok (.aload_n 0, 1) := by decide +kernel
theorem d_b_drop_21 : decode M_b_drop.2.1 21 = .ok (.getfield 18, 3) := by decide +kernel
theorem d_b_drop_24 : decode M_b_drop.2.1 24 = .ok (.if_icmp .ge 23, 3) := by decide +kernel
theorem d_b_drop_27 : decode M_b_drop.2.1 27 = .ok (.aload_n 0, 1) := by decide +kernel
theorem d_b_drop_28 : decode M_b_drop.2.1 28 = .ok (.getfield 11, 3) := by decide +kernel
theorem d_b_drop_31 : decode M_b_drop.2.1 31 = .ok (.iload_n 3, 1) := by decide +kernel
theorem d_b_drop_32 : decode M_b_drop.2.1 32 = .ok (.aload_n 0, 1) := by decide +kernel
theorem d_b_drop_33 : decode M_b_drop.2.1 33 = .ok (.getfield 11, 3) := by decide +kernel
theorem d_b_drop_36 : decode M_b_drop.2.1 36 = .ok (.iload_n 3, 1) := by decide +kernel
theorem d_b_drop_37 : decode M_b_drop.2.1 37 = .ok (.iconst 1, 1) := by decide +kernel
theorem d_b_drop_38 : decode M_b_drop.2.1 38 = .ok (.iadd, 1) := by decide +kernel
theorem d_b_drop_39 : decode M_b_drop.2.1 39 = .ok (.aaload, 1) := by decide +kernel
theorem d_b_drop_40 : decode M_b_drop.2.1 40 = .ok (.aastore, 1) := by decide +kernel
theorem d_b_drop_41 : decode M_b_drop.2.1 41 = .ok (.iinc 3 1, 3) := by decide +kernel
theorem d_b_drop_44 : decode M_b_drop.2.1 44 = .ok (.goto (-25), 3) := by decide +kernel
theorem d_b_drop_47 : decode M_b_drop.2.1 47 = .ok (.aload_n 0, 1) := by decide +kernel
theorem d_b_drop_48 : decode M_b_drop.2.1 48 = .ok (.getfield 11, 3) := by decide +kernel
theorem d_b_drop_51 : decode M_b_drop.2.1 51 = .ok (.aload_n 0, 1) := by decide +kernel
theorem d_b_drop_52 : decode M_b_drop.2.1 52 = .ok (.getfield 18, 3) := by decide +kernel
theorem d_b_drop_55 : decode M_b_drop.2.1 55 = .ok (.aload_n 2, 1) := by decide +kernel
theorem d_b_drop_56 : decode M_b_drop.2.1 56 = .ok (.aastore, 1) := by decide +kernel
theorem d_b_drop_57 : decode M_b_drop.2.1 57 = .ok (.return_, 1) := by decide +kernel
theorem d_q_listOf_0 : decode M_q_listOf.2.1 0 = .ok (.aload_n 0, 1) := by decide +kernel
theorem d_q_listOf_1 : decode M_q_listOf.2.1 1 = .ok (.getfield 40, 3) := by decide +kernel
theorem d_q_listOf_4 : decode M_q_listOf.2.1 4 = .ok (.iload_n 1, 1) := by decide +kernel
theorem d_q_listOf_5 : decode M_q_listOf.2.1 5 = .ok (.invokevirtual 132, 3) := by decide +kernel
theorem d_q_listOf_8 : decode M_q_listOf.2.1 8 = .ok (.istore_n 2, 1) := by decide +kernel
theorem d_q_listOf_9 : decode M_q_listOf.2.1 9 = .ok (.iload_n 2, 1) := by decide +kernel
theorem d_q_listOf_10 : decode M_q_listOf.2.1 10 = .ok (.iconst (-1), 1) := by decide +kernel
theorem d_q_listOf_11 : decode M_q_listOf.2.1 11 = .ok (.if_icmp .ne 7, 3) := by decide +kernel
theorem d_q_listOf_14 : decode M_q_listOf.2.1 14 = .ok (.iconst (-1), 1) := by decide +kernel
theorem d_q_listOf_15 : decode M_q_listOf.2.1 15 = .ok (.goto 15, 3) := by decide +kernel
theorem d_q_listOf_18 : decode M_q_listOf.2.1 18 = .ok (.aload_n 0, 1) := by decide +kernel
theorem d_q_listOf_19 : decode M_q_listOf.2.1 19 = .ok (.getfield 40, 3) := by decide +kernel
theorem d_q_listOf_22 : decode M_q_listOf.2.1 22 = .ok (.getfield 142, 3) := by decide +kernel
theorem d_q_listOf_25 : decode M_q_listOf.2.1 25 = .ok (.iload_n 2, 1) := by decide +kernel
theorem d_q_listOf_26 : decode M_q_listOf.2.1 26 = .ok (.aaload, 1) := by decide +kernel
theorem d_q_listOf_27 : decode M_q_listOf.2.1 27 = .ok (.getfield 146, 3) := by decide +kernel
theorem d_q_listOf_30 : decode M_q_listOf.2.1 30 = .ok (.ireturn, 1) := by decide +kernel
theorem d_q_codeOf_0 : decode M_q_codeOf.2.1 0 = .ok (.aload_n 0, 1) := by decide +kernel
theorem d_q_codeOf_1 : decode M_q_codeOf.2.1 1 = .ok (.getfield 40, 3) := by decide +kernel
theorem d_q_codeOf_4 : decode M_q_codeOf.2.1 4 = .ok (.iload_n 1, 1) := by decide +kernel
theorem d_q_codeOf_5 : decode M_q_codeOf.2.1 5 = .ok (.invokevirtual 132, 3) := by decide +kernel
theorem d_q_codeOf_8 : decode M_q_codeOf.2.1 8 = .ok (.istore_n 2, 1) := by decide +kernel
theorem d_q_codeOf_9 : decode M_q_codeOf.2.1 9 = .ok (.iload_n 2, 1) := by decide +kernel
theorem d_q_codeOf_10 : decode M_q_codeOf.2.1 10 = .ok (.iconst (-1), 1) := by decide +kernel
theorem d_q_codeOf_11 : decode M_q_codeOf.2.1 11 = .ok (.if_icmp .ne 7, 3) := by decide +kernel
theorem d_q_codeOf_14 : decode M_q_codeOf.2.1 14 = .ok (.iconst (-1), 1) := by decide +kernel
theorem d_q_codeOf_15 : decode M_q_codeOf.2.1 15 = .ok (.goto 19, 3) := by decide +kernel
theorem d_q_codeOf_18 : decode M_q_codeOf.2.1 18 = .ok (.aload_n 0, 1) := by decide +kernel
theorem d_q_codeOf_19 : decode M_q_codeOf.2.1 19 = .ok (.getfield 33, 3) := by decide +kernel
theorem d_q_codeOf_22 : decode M_q_codeOf.2.1 22 = .ok (.aload_n 0, 1) := by decide +kernel
theorem d_q_codeOf_23 : decode M_q_codeOf.2.1 23 = .ok (.getfield 40, 3) := by decide +kernel
theorem d_q_codeOf_26 : decode M_q_codeOf.2.1 26 = .ok (.getfield 142, 3) := by decide +kernel
theorem d_q_codeOf_29 : decode M_q_codeOf.2.1 29 = .ok (.iload_n 2, 1) := by decide +kernel
theorem d_q_codeOf_30 : decode M_q_codeOf.2.1 30 = .ok (.aaload, 1) := by decide +kernel
theorem d_q_codeOf_31 : decode M_q_codeOf.2.1 31 = .ok (.invokevirtual 151, 3) := by decide +kernel
theorem d_q_codeOf_34 : decode M_q_codeOf.2.1 34 = .ok (.ireturn, 1) := by decide +kernel
theorem d_z_codeAsNumber_0 : decode M_z_codeAsNumber.2.1 0 = .ok (.iconst 0, 1) := by decide +kernel
theorem d_z_codeAsNumber_1 : decode M_z_codeAsNumber.2.1 1 = .ok (.istore_n 2, 1) := by decide +kernel
theorem d_z_codeAsNumber_2 : decode M_z_codeAsNumber.2.1 2 = .ok (.iconst 1, 1) := by decide +kernel
theorem d_z_codeAsNumber_3 : decode M_z_codeAsNumber.2.1 3 = .ok (.istore_n 3, 1) := by decide +kernel
theorem d_z_codeAsNumber_4 : decode M_z_codeAsNumber.2.1 4 = .ok (.iconst 0, 1) := by decide +kernel
theorem d_z_codeAsNumber_5 : decode M_z_codeAsNumber.2.1 5 = .ok (.istore 4, 2) := by decide +kernel
theorem d_z_codeAsNumber_7 : decode M_z_codeAsNumber.2.1 7 = .ok (.iload 4, 2) := by decide +kernel
theorem d_z_codeAsNumber_9 : decode M_z_codeAsNumber.2.1 9 = .ok (.aload_n 0, 1) := by decide +kernel
theorem d_z_codeAsNumber_10 : decode M_z_codeAsNumber.2.1 10 = .ok (.getfield 27, 3) := by decide +kernel
theorem d_z_codeAsNumber_13 : decode M_z_codeAsNumber.2.1 13 = .ok (.invokestatic 41, 3) := by decide +kernel
theorem d_z_codeAsNumber_16 : decode M_z_codeAsNumber.2.1 16 = .ok (.if_icmp .ge 28, 3) := by decide +kernel
theorem d_z_codeAsNumber_19 : decode M_z_codeAsNumber.2.1 19 = .ok (.iload_n 2, 1) := by decide +kernel
theorem d_z_codeAsNumber_20 : decode M_z_codeAsNumber.2.1 20 = .ok (.aload_n 1, 1) := by decide +kernel
theorem d_z_codeAsNumber_21 : decode M_z_codeAsNumber.2.1 21 = .ok (.getfield 76, 3) := by decide +kernel
theorem d_z_codeAsNumber_24 : decode M_z_codeAsNumber.2.1 24 = .ok (.iload 4, 2) := by decide +kernel
theorem d_z_codeAsNumber_26 : decode M_z_codeAsNumber.2.1 26 = .ok (.iaload, 1) := by decide +kernel
theorem d_z_codeAsNumber_27 : decode M_z_codeAsNumber.2.1 27 = .ok (.iload_n 3, 1) := by decide +kernel
theorem d_z_codeAsNumber_28 : decode M_z_codeAsNumber.2.1 28 = .ok (.imul, 1) := by decide +kernel
theorem d_z_codeAsNumber_29 : decode M_z_codeAsNumber.2.1 29 = .ok (.iadd, 1) := by decide +kernel
theorem d_z_codeAsNumber_30 : decode M_z_codeAsNumber.2.1 30 = .ok (.istore_n 2, 1) := by decide +kernel
theorem d_z_codeAsNumber_31 : decode M_z_codeAsNumber.2.1 31 = .ok (.iload_n 3, 1) := by decide +kernel
theorem d_z_codeAsNumber_32 : decode M_z_codeAsNumber.2.1 32 = .ok (.aload_n 0, 1) := by decide +kernel
theorem d_z_codeAsNumber_33 : decode M_z_codeAsNumber.2.1 33 = .ok (.getfield 34, 3) := by decide +kernel
theorem d_z_codeAsNumber_36 : decode M_z_codeAsNumber.2.1 36 = .ok (.imul, 1) := by decide +kernel
theorem d_z_codeAsNumber_37 : decode M_z_codeAsNumber.2.1 37 = .ok (.istore_n 3, 1) := by decide +kernel
theorem d_z_codeAsNumber_38 : decode M_z_codeAsNumber.2.1 38 = .ok (.iinc 4 1, 3) := by decide +kernel
theorem d_z_codeAsNumber_41 : decode M_z_codeAsNumber.2.1 41 = .ok (.goto (-34), 3) := by decide +kernel
theorem d_z_codeAsNumber_44 : decode M_z_codeAsNumber.2.1 44 = .ok (.iload_n 2, 1) := by decide +kernel
theorem d_z_codeAsNumber_45 : decode M_z_codeAsNumber.2.1 45 = .ok (.ireturn, 1) := by decide +kernel
theorem d_q_entries_0 : decode M_q_entries.2.1 0 = .ok (.aload_n 0, 1) := by decide +kernel
theorem d_q_entries_1 : decode M_q_entries.2.1 1 = .ok (.getfield 33, 3) := by decide +kernel
theorem d_q_entries_4 : decode M_q_entries.2.1 4 = .ok (.iload_n 1, 1) := by decide +kernel
theorem d_q_entries_5 : decode M_q_entries.2.1 5 = .ok (.invokevirtual 107, 3) := by decide +kernel
theorem d_q_entries_8 : decode M_q_entries.2.1 8 = .ok (.ifCond .eq 14, 3) := by decide +kernel
theorem d_q_entries_11 : decode M_q_entries.2.1 11 = .ok (.aload_n 0, 1) := by decide +kernel
theorem d_q_entries_12 : decode M_q_entries.2.1 12 = .ok (.getfield 40, 3) := by decide +kernel
theorem d_q_entries_15 : decode M_q_entries.2.1 15 = .ok (.iload_n 1, 1) := by decide +kernel
theorem d_q_entries_16 : decode M_q_entries.2.1 16 = .ok (.invokevirtual 155, 3) := by decide +kernel
theorem d_q_entries_19 : decode M_q_entries.2.1 19 = .ok (.goto 4, 3) := by decide +kernel
theorem d_q_entries_22 : decode M_q_entries.2.1 22 = .ok (.iconst (-1), 1) := by decide +kernel
theorem d_q_entries_23 : decode M_q_entries.2.1 23 = .ok (.ireturn, 1) := by decide +kernel
theorem d_b_countInList_0 : decode M_b_countInList.2.1 0 = .ok (.iconst 0, 1) := by decide +kernel
theorem d_b_countInList_1 : decode M_b_countInList.2.1 1 = .ok (.istore_n 2, 1) := by decide +kernel
theorem d_b_countInList_2 : decode M_b_countInList.2.1 2 = .ok (.iconst 0, 1) := by decide +kernel
theorem d_b_countInList_3 : decode M_b_countInList.2.1 3 = .ok (.istore_n 3, 1) := by decide +kernel
theorem d_b_countInList_4 : decode M_b_countInList.2.1 4 = .ok (.iload_n 3, 1) := by decide +kernel
theorem d_b_countInList_5 : decode M_b_countInList.2.1 5 = .ok (.aload_n 0, 1) := by decide +kernel
theorem d_b_countInList_6 : decode M_b_countInList.2.1 6 = .ok (.getfield 18, 3) := by decide +kernel
theorem d_b_countInList_9 : decode M_b_countInList.2.1 9 = .ok (.if_icmp .ge 25, 3) := by decide +kernel
theorem d_b_countInList_12 : decode M_b_countInList.2.1 12 = .ok (.aload_n 0, 1) := by decide +kernel
theorem d_b_countInList_13 : decode M_b_countInList.2.1 13 = .ok (.getfield 11, 3) := by decide +kernel
theorem d_b_countInList_16 : decode M_b_countInList.2.1 16 = .ok (.iload_n 3, 1) := by decide +kernel
theorem d_b_countInList_17 : decode M_b_countInList.2.1 17 = .ok (.aaload, 1) := by decide +kernel
theorem d_b_countInList_18 : decode M_b_countInList.2.1 18 = .ok (.getfield 25, 3) := by decide +kernel
theorem d_b_countInList_21 : decode M_b_countInList.2.1 21 = .ok (.iload_n 1, 1) := by decide +kernel
theorem d_b_countInList_22 : decode M_b_countInList.2.1 22 = .ok (.if_icmp .ne 6, 3) := by decide +kernel
theorem d_b_countInList_25 : decode M_b_countInList.2.1 25 = .ok (.iinc 2 1, 3) := by decide +kernel
theorem d_b_countInList_28 : decode M_b_countInList.2.1 28 = .ok (.iinc 3 1, 3) := by decide +kernel
theorem d_b_countInList_31 : decode M_b_countInList.2.1 31 = .ok (.goto (-27), 3) := by decide +kernel
theorem d_b_countInList_34 : decode M_b_countInList.2.1 34 = .ok (.iload_n 2, 1) := by decide +kernel
theorem d_b_countInList_35 : decode M_b_countInList.2.1 35 = .ok (.ireturn, 1) := by decide +kernel
theorem d_q_effort_0 : decode M_q_effort.2.1 0 = .ok (.iload_n 1, 1) := by decide +kernel
theorem d_q_effort_1 : decode M_q_effort.2.1 1 = .ok (.iconst 1, 1) := by decide +kernel
theorem d_q_effort_2 : decode M_q_effort.2.1 2 = .ok (.iconst 4, 1) := by decide +kernel
theorem d_q_effort_3 : decode M_q_effort.2.1 3 = .ok (.invokestatic 86, 3) := by decide +kernel
theorem d_q_effort_6 : decode M_q_effort.2.1 6 = .ok (.ifCond .eq 12, 3) := by decide +kernel
theorem d_q_effort_9 : decode M_q_effort.2.1 9 = .ok (.iload_n 2, 1) := by decide +kernel
theorem d_q_effort_10 : decode M_q_effort.2.1 10 = .ok (.iconst 0, 1) := by decide +kernel
theorem d_q_effort_11 : decode M_q_effort.2.1 11 = .ok (.iconst 3, 1) := by decide +kernel
theorem d_q_effort_12 : decode M_q_effort.2.1 12 = .ok (.invokestatic 86, 3) := by decide +kernel
theorem d_q_effort_15 : decode M_q_effort.2.1 15 = .ok (.ifCond .ne 5, 3) := by decide +kernel
theorem d_q_effort_18 : decode M_q_effort.2.1 18 = .ok (.iconst 0, 1) := by decide +kernel
theorem d_q_effort_19 : decode M_q_effort.2.1 19 = .ok (.ireturn, 1) := by decide +kernel
theorem d_q_effort_20 : decode M_q_effort.2.1 20 = .ok (.aload_n 0, 1) := by decide +kernel
theorem d_q_effort_21 : decode M_q_effort.2.1 21 = .ok (.getfield 47, 3) := by decide +kernel
theorem d_q_effort_24 : decode M_q_effort.2.1 24 = .ok (.iload_n 1, 1) := by decide +kernel
theorem d_q_effort_25 : decode M_q_effort.2.1 25 = .ok (.putfield 158, 3) := by decide +kernel
theorem d_q_effort_28 : decode M_q_effort.2.1 28 = .ok (.aload_n 0, 1) := by decide +kernel
theorem d_q_effort_29 : decode M_q_effort.2.1 29 = .ok (.getfield 47, 3) := by decide +kernel
theorem d_q_effort_32 : decode M_q_effort.2.1 32 = .ok (.iload_n 2, 1) := by decide +kernel
theorem d_q_effort_33 : decode M_q_effort.2.1 33 = .ok (.putfield 161, 3) := by decide +kernel
theorem d_q_effort_36 : decode M_q_effort.2.1 36 = .ok (.iconst 1, 1) := by decide +kernel
theorem d_q_effort_37 : decode M_q_effort.2.1 37 = .ok (.ireturn, 1) := by decide +kernel
theorem d_q_search_0 : decode M_q_search.2.1 0 = .ok (.aload_n 0, 1) := by decide +kernel
theorem d_q_search_1 : decode M_q_search.2.1 1 = .ok (.getfield 33, 3) := by decide +kernel
theorem d_q_search_4 : decode M_q_search.2.1 4 = .ok (.getfield 62, 3) := by decide +kernel
theorem d_q_search_7 : decode M_q_search.2.1 7 = .ok (.ifCond .ne 5, 3) := by decide +kernel
theorem d_q_search_10 : decode M_q_search.2.1 10 = .ok (.iconst (-1), 1) := by decide +kernel
theorem d_q_search_11 : decode M_q_search.2.1 11 = .ok (.ireturn, 1) := by decide +kernel
theorem d_q_search_12 : decode M_q_search.2.1 12 = .ok (.iload_n 1, 1) := by decide +kernel
theorem d_q_search_13 : decode M_q_search.2.1 13 = .ok (.iload_n 2, 1) := by decide +kernel
theorem d_q_search_14 : decode M_q_search.2.1 14 = .ok (.iload_n 3, 1) := by decide +kernel
theorem d_q_search_15 : decode M_q_search.2.1 15 = .ok (.iload 4, 2) := by decide +kernel
theorem d_q_search_17 : decode M_q_search.2.1 17 = .ok (.invokestatic 70, 3) := by decide +kernel
theorem d_q_search_20 : decode M_q_search.2.1 20 = .ok (.ifCond .eq 6, 3) := by decide +kernel
theorem d_q_search_23 : decode M_q_search.2.1 23 = .ok (.bipush (-2), 2) := by decide +kernel
theorem d_q_search_25 : decode M_q_search.2.1 25 = .ok (.ireturn, 1) := by decide +kernel
theorem d_q_search_26 : decode M_q_search.2.1 26 = .ok (.iload 5, 2) := by decide +kernel
theorem d_q_search_28 : decode M_q_search.2.1 28 = .ok (.iconst 1, 1) := by decide +kernel
theorem d_q_search_29 : decode M_q_search.2.1 29 = .ok (.bipush 8, 2) := by decide +kernel
theorem d_q_search_31 : decode M_q_search.2.1 31 = .ok (.invokestatic 86, 3) := by decide +kernel
theorem d_q_search_34 : decode M_q_search.2.1 34 = .ok (.ifCond .ne 6, 3) := by decide +kernel
theorem d_q_search_37 : decode M_q_search.2.1 37 = .ok (.bipush (-3), 2) := by decide +kernel
theorem d_q_search_39 : decode M_q_search.2.1 39 = .ok (.ireturn, 1) := by decide +kernel
theorem d_q_search_40 : decode M_q_search.2.1 40 = .ok (.aload_n 0, 1) := by decide +kernel
theorem d_q_search_41 : decode M_q_search.2.1 41 = .ok (.getfield 47, 3) := by decide +kernel
theorem d_q_search_44 : decode M_q_search.2.1 44 = .ok (.getfield 164, 3) := by decide +kernel
theorem d_q_search_47 : decode M_q_search.2.1 47 = .ok (.iload_n 1, 1) := by decide +kernel
theorem d_q_search_48 : decode M_q_search.2.1 48 = .ok (.iload_n 2, 1) := by decide +kernel
theorem d_q_search_49 : decode M_q_search.2.1 49 = .ok (.iload_n 3, 1) := by decide +kernel
theorem d_q_search_50 : decode M_q_search.2.1 50 = .ok (.iload 4, 2) := by decide +kernel
theorem d_q_search_52 : decode M_q_search.2.1 52 = .ok (.invokestatic 81, 3) := by decide +kernel
theorem d_q_search_55 : decode M_q_search.2.1 55 = .ok (.aload_n 0, 1) := by decide +kernel
theorem d_q_search_56 : decode M_q_search.2.1 56 = .ok (.getfield 10, 3) := by decide +kernel
theorem d_q_search_59 : decode M_q_search.2.1 59 = .ok (.aload_n 0, 1) := by decide +kernel
theorem d_q_search_60 : decode M_q_search.2.1 60 = .ok (.getfield 47, 3) := by decide +kernel
theorem d_q_search_63 : decode M_q_search.2.1 63 = .ok (.getfield 164, 3) := by decide +kernel
theorem d_q_search_66 : decode M_q_search.2.1 66 = .ok (.aload_n 0, 1) := by decide +kernel
theorem d_q_search_67 : decode M_q_search.2.1 67 = .ok (.getfield 47, 3) := by decide +kernel
theorem d_q_search_70 : decode M_q_search.2.1 70 = .ok (.getfield 168, 3) := by decide +kernel
theorem d_q_search_73 : decode M_q_search.2.1 73 = .ok (.invokevirtual 171, 3) := by decide +kernel
theorem d_q_search_76 : decode M_q_search.2.1 76 = .ok (.aload_n 0, 1) := by decide +kernel
theorem d_q_search_77 : decode M_q_search.2.1 77 = .ok (.getfield 47, 3) := by decide +kernel
theorem d_q_search_80 : decode M_q_search.2.1 80 = .ok (.aload_n 0, 1) := by decide +kernel
theorem d_q_search_81 : decode M_q_search.2.1 81 = .ok (.getfield 33, 3) := by decide +kernel
theorem d_q_search_84 : decode M_q_search.2.1 84 = .ok (.aload_n 0, 1) := by decide +kernel
theorem d_q_search_85 : decode M_q_search.2.1 85 = .ok (.getfield 40, 3) := by decide +kernel
theorem d_q_search_88 : decode M_q_search.2.1 88 = .ok (.iload 5, 2) := by decide +kernel
theorem d_q_search_90 : decode M_q_search.2.1 90 = .ok (.invokevirtual 175, 3) := by decide +kernel
theorem d_q_search_93 : decode M_q_search.2.1 93 = .ok (.aload_n 0, 1) := by decide +kernel
theorem d_q_search_94 : decode M_q_search.2.1 94 = .ok (.getfield 47, 3) := by decide +kernel
theorem d_q_search_97 : decode M_q_search.2.1 97 = .ok (.getfield 179, 3) := by decide +kernel
theorem d_q_search_100 : decode M_q_search.2.1 100 = .ok (.ireturn, 1) := by decide +kernel
theorem d_f_find_0 : decode M_f_find.2.1 0 = .ok (.aload_n 0, 1) := by decide +kernel
theorem d_f_find_1 : decode M_f_find.2.1 1 = .ok (.aload_n 1, 1) := by decide +kernel
theorem d_f_find_2 : decode M_f_find.2.1 2 = .ok (.aload_n 2, 1) := by decide +kernel
theorem d_f_find_3 : decode M_f_find.2.1 3 = .ok (.invokevirtual 41, 3) := by decide +kernel
theorem d_f_find_6 : decode M_f_find.2.1 6 = .ok (.aload_n 0, 1) := by decide +kernel
theorem d_f_find_7 : decode M_f_find.2.1 7 = .ok (.aload_n 0, 1) := by decide +kernel
theorem d_f_find_8 : decode M_f_find.2.1 8 = .ok (.getfield 45, 3) := by decide +kernel
theorem d_f_find_11 : decode M_f_find.2.1 11 = .ok (.invokevirtual 48, 3) := by decide +kernel
theorem d_f_find_14 : decode M_f_find.2.1 14 = .ok (.aload_n 0, 1) := by decide +kernel
theorem d_f_find_15 : decode M_f_find.2.1 15 = .ok (.getfield 31, 3) := by decide +kernel
theorem d_f_find_18 : decode M_f_find.2.1 18 = .ok (.ifCond .le 31, 3) := by decide +kernel
theorem d_f_find_21 : decode M_f_find.2.1 21 = .ok (.iload_n 3, 1) := by decide +kernel
theorem d_f_find_22 : decode M_f_find.2.1 22 = .ok (.aload_n 0, 1) := by decide +kernel
theorem d_f_find_23 : decode M_f_find.2.1 23 = .ok (.getfield 31, 3) := by decide +kernel
theorem d_f_find_26 : decode M_f_find.2.1 26 = .ok (.imul, 1) := by decide +kernel
theorem d_f_find_27 : decode M_f_find.2.1 27 = .ok (.aload_n 0, 1) := by decide +kernel
theorem d_f_find_28 : decode M_f_find.2.1 28 = .ok (.getfield 45, 3) := by decide +kernel
theorem d_f_find_31 : decode M_f_find.2.1 31 = .ok (.invokestatic 52, 3) := by decide +kernel
theorem d_f_find_34 : decode M_f_find.2.1 34 = .ok (.istore 4, 2) := by decide +kernel
theorem d_f_find_36 : decode M_f_find.2.1 36 = .ok (.aload_n 0, 1) := by decide +kernel
theorem d_f_find_37 : decode M_f_find.2.1 37 = .ok (.aload_n 2, 1) := by decide +kernel
theorem d_f_find_38 : decode M_f_find.2.1 38 = .ok (.iload 4, 2) := by decide +kernel
theorem d_f_find_40 : decode M_f_find.2.1 40 = .ok (.invokevirtual 58, 3) := by decide +kernel
theorem d_f_find_43 : decode M_f_find.2.1 43 = .ok (.aload_n 0, 1) := by decide +kernel
theorem d_f_find_44 : decode M_f_find.2.1 44 = .ok (.iload 4, 2) := by decide +kernel
theorem d_f_find_46 : decode M_f_find.2.1 46 = .ok (.invokevirtual 48, 3) := by decide +kernel
theorem d_f_find_49 : decode M_f_find.2.1 49 = .ok (.aload_n 0, 1) := by decide +kernel
theorem d_f_find_50 : decode M_f_find.2.1 50 = .ok (.iload_n 3, 1) := by decide +kernel
theorem d_f_find_51 : decode M_f_find.2.1 51 = .ok (.aload_n 0, 1) := by decide +kernel
theorem d_f_find_52 : decode M_f_find.2.1 52 = .ok (.getfield 45, 3) := by decide +kernel
theorem d_f_find_55 : decode M_f_find.2.1 55 = .ok (.invokestatic 52, 3) := by decide +kernel
theorem d_f_find_58 : decode M_f_find.2.1 58 = .ok (.putfield 34, 3) := by decide +kernel
theorem d_f_find_61 : decode M_f_find.2.1 61 = .ok (.aload_n 0, 1) := by decide +kernel
theorem d_f_find_62 : decode M_f_find.2.1 62 = .ok (.aload_n 2, 1) := by decide +kernel
theorem d_f_find_63 : decode M_f_find.2.1 63 = .ok (.invokevirtual 62, 3) := by decide +kernel
theorem d_f_find_66 : decode M_f_find.2.1 66 = .ok (.return_, 1) := by decide +kernel
theorem d_f_lookThrough_0 : decode M_f_lookThrough.2.1 0 = .ok (.aload_n 0, 1) := by decide +kernel
theorem d_f_lookThrough_1 : decode M_f_lookThrough.2.1 1 = .ok (.iconst 0, 1) := by decide +kernel
theorem d_f_lookThrough_2 : decode M_f_lookThrough.2.1 2 = .ok (.putfield 45, 3) := by decide +kernel
theorem d_f_lookThrough_5 : decode M_f_lookThrough.2.1 5 = .ok (.iconst 0, 1) := by decide +kernel
theorem d_f_lookThrough_6 : decode M_f_lookThrough.2.1 6 = .ok (.istore_n 3, 1) := by decide +kernel
theorem d_f_lookThrough_7 : decode M_f_lookThrough.2.1 7 = .ok (.iload_n 3, 1) := by decide +kernel
theorem d_f_lookThrough_8 : decode M_f_lookThrough.2.1 8 = .ok (.aload_n 2, 1) := by decide +kernel
theorem d_f_lookThrough_9 : decode M_f_lookThrough.2.1 9 = .ok (.getfield 66, 3) := by decide +kernel
theorem d_f_lookThrough_12 : decode M_f_lookThrough.2.1 12 = .ok (.if_icmp .ge 76, 3) := by decide +kernel
theorem d_f_lookThrough_15 : decode M_f_lookThrough.2.1 15 = .ok (.aload_n 2, 1) := by decide +kernel
theorem d_f_lookThrough_16 : decode M_f_lookThrough.2.1 16 = .ok (.getfield 71, 3) := by decide +kernel
theorem d_f_lookThrough_19 : decode M_f_lookThrough.2.1 19 = .ok (.iload_n 3, 1) := by decide +kernel
theorem d_f_lookThrough_20 : decode M_f_lookThrough.2.1 20 = .ok (.aaload, 1) := by decide +kernel
theorem d_f_lookThrough_21 : decode M_f_lookThrough.2.1 21 = .ok (.astore 4, 2) := by decide +kernel
theorem d_f_lookThrough_23 : decode M_f_lookThrough.2.1 23 = .ok (.aload_n 1, 1) := by decide +kernel
theorem d_f_lookThrough_24 : decode M_f_lookThrough.2.1 24 = .ok (.aload 4, 2) := by decide +kernel
theorem d_f_lookThrough_26 : decode M_f_lookThrough.2.1 26 = .ok (.getfield 75, 3) := by decide +kernel
theorem d_f_lookThrough_29 : decode M_f_lookThrough.2.1 29 = .ok (.aload_n 0, 1) := by decide +kernel
theorem d_f_lookThrough_30 : decode M_f_lookThrough.2.1 30 = .ok (.getfield 15, 3) := by decide +kernel
theorem d_f_lookThrough_33 : decode M_f_lookThrough.2.1 33 = .ok (.invokevirtual 80, 3) := by decide +kernel
theorem d_f_lookThrough_36 : decode M_f_lookThrough.2.1 36 = .ok (.aload_n 0, 1) := by decide +kernel
theorem d_f_lookThrough_37 : decode M_f_lookThrough.2.1 37 = .ok (.getfield 27, 3) := by decide +kernel
theorem d_f_lookThrough_40 : decode M_f_lookThrough.2.1 40 = .ok (.if_icmp .ge 42, 3) := by decide +kernel
theorem d_f_lookThrough_43 : decode M_f_lookThrough.2.1 43 = .ok (.aload_n 0, 1) := by decide +kernel
theorem d_f_lookThrough_44 : decode M_f_lookThrough.2.1 44 = .ok (.getfield 18, 3) := by decide +kernel
theorem d_f_lookThrough_47 : decode M_f_lookThrough.2.1 47 = .ok (.aload_n 0, 1) := by decide +kernel
theorem d_f_lookThrough_48 : decode M_f_lookThrough.2.1 48 = .ok (.getfield 45, 3) := by decide +kernel
theorem d_f_lookThrough_51 : decode M_f_lookThrough.2.1 51 = .ok (.iload_n 3, 1) := by decide +kernel
theorem d_f_lookThrough_52 : decode M_f_lookThrough.2.1 52 = .ok (.iastore, 1) := by decide +kernel
theorem d_f_lookThrough_53 : decode M_f_lookThrough.2.1 53 = .ok (.aload_n 0, 1) := by decide +kernel
theorem d_f_lookThrough_54 : decode M_f_lookThrough.2.1 54 = .ok (.getfield 21, 3) := by decide +kernel
theorem d_f_lookThrough_57 : decode M_f_lookThrough.2.1 57 = .ok (.aload_n 0, 1) := by decide +kernel
theorem d_f_lookThrough_58 : decode M_f_lookThrough.2.1 58 = .ok (.getfield 45, 3) := by decide +kernel
theorem d_f_lookThrough_61 : decode M_f_lookThrough.2.1 61 = .ok (.aload_n 1, 1) := by decide +kernel
theorem d_f_lookThrough_62 : decode M_f_lookThrough.2.1 62 = .ok (.aload_n 0, 1) := by decide +kernel
theorem d_f_lookThrough_63 : decode M_f_lookThrough.2.1 63 = .ok (.getfield 15, 3) := by decide +kernel
theorem d_f_lookThrough_66 : decode M_f_lookThrough.2.1 66 = .ok (.aload 4, 2) := by decide +kernel
theorem d_f_lookThrough_68 : decode M_f_lookThrough.2.1 68 = .ok (.invokevirtual 86, 3) := by decide +kernel
theorem d_f_lookThrough_71 : decode M_f_lookThrough.2.1 71 = .ok (.iastore, 1) := by decide +kernel
theorem d_f_lookThrough_72 : decode M_f_lookThrough.2.1 72 = .ok (.aload_n 0, 1) := by decide +kernel
theorem d_f_lookThrough_73 : decode M_f_lookThrough.2.1 73 = .ok (.dup, 1) := by decide +kernel
theorem d_f_lookThrough_74 : decode M_f_lookThrough.2.1 74 = .ok (.getfield 45, 3) := by decide +kernel
theorem d_f_lookThrough_77 : decode M_f_lookThrough.2.1 77 = .ok (.iconst 1, 1) := by decide +kernel
theorem d_f_lookThrough_78 : decode M_f_lookThrough.2.1 78 = .ok (.iadd, 1) := by decide +kernel
theorem d_f_lookThrough_79 : decode M_f_lookThrough.2.1 79 = .ok (.putfield 45, 3) := by decide +kernel
theorem d_f_lookThrough_82 : decode M_f_lookThrough.2.1 82 = .ok (.iinc 3 1, 3) := by decide +kernel
theorem d_f_lookThrough_85 : decode M_f_lookThrough.2.1 85 = .ok (.goto (-78), 3) := by decide +kernel
theorem d_f_lookThrough_88 : decode M_f_lookThrough.2.1 88 = .ok (.return_, 1) := by decide +kernel
theorem d_z_listsBefore_0 : decode M_z_listsBefore.2.1 0 = .ok (.aload_n 0, 1) := by decide +kernel
theorem d_z_listsBefore_1 : decode M_z_listsBefore.2.1 1 = .ok (.getfield 11, 3) := by decide +kernel
theorem d_z_listsBefore_4 : decode M_z_listsBefore.2.1 4 = .ok (.iload_n 1, 1) := by decide +kernel
theorem d_z_listsBefore_5 : decode M_z_listsBefore.2.1 5 = .ok (.aaload, 1) := by decide +kernel
theorem d_z_listsBefore_6 : decode M_z_listsBefore.2.1 6 = .ok (.aload_n 2, 1) := by decide +kernel
theorem d_z_listsBefore_7 : decode M_z_listsBefore.2.1 7 = .ok (.iconst 0, 1) := by decide +kernel
theorem d_z_listsBefore_8 : decode M_z_listsBefore.2.1 8 = .ok (.iconst 4, 1) := by decide +kernel
theorem d_z_listsBefore_9 : decode M_z_listsBefore.2.1 9 = .ok (.invokestatic 56, 3) := by decide +kernel
theorem d_z_listsBefore_12 : decode M_z_listsBefore.2.1 12 = .ok (.istore_n 3, 1) := by decide +kernel
theorem d_z_listsBefore_13 : decode M_z_listsBefore.2.1 13 = .ok (.iconst 0, 1) := by decide +kernel
theorem d_z_listsBefore_14 : decode M_z_listsBefore.2.1 14 = .ok (.istore 4, 2) := by decide +kernel
theorem d_z_listsBefore_16 : decode M_z_listsBefore.2.1 16 = .ok (.iconst 0, 1) := by decide +kernel
theorem d_z_listsBefore_17 : decode M_z_listsBefore.2.1 17 = .ok (.istore 5, 2) := by decide +kernel
theorem d_z_listsBefore_19 : decode M_z_listsBefore.2.1 19 = .ok (.iload 5, 2) := by decide +kernel
theorem d_z_listsBefore_21 : decode M_z_listsBefore.2.1 21 = .ok (.aload_n 0, 1) := by decide +kernel
theorem d_z_listsBefore_22 : decode M_z_listsBefore.2.1 22 = .ok (.getfield 31, 3) := by decide +kernel
theorem d_z_listsBefore_25 : decode M_z_listsBefore.2.1 25 = .ok (.if_icmp .ge 45, 3) := by decide +kernel
theorem d_z_listsBefore_28 : decode M_z_listsBefore.2.1 28 = .ok (.aload_n 0, 1) := by decide +kernel
theorem d_z_listsBefore_29 : decode M_z_listsBefore.2.1 29 = .ok (.getfield 11, 3) := by decide +kernel
theorem d_z_listsBefore_32 : decode M_z_listsBefore.2.1 32 = .ok (.iload 5, 2) := by decide +kernel
theorem d_z_listsBefore_34 : decode M_z_listsBefore.2.1 34 = .ok (.aaload, 1) := by decide +kernel
theorem d_z_listsBefore_35 : decode M_z_listsBefore.2.1 35 = .ok (.aload_n 2, 1) := by decide +kernel
theorem d_z_listsBefore_36 : decode M_z_listsBefore.2.1 36 = .ok (.iconst 0, 1) := by decide +kernel
theorem d_z_listsBefore_37 : decode M_z_listsBefore.2.1 37 = .ok (.iconst 4, 1) := by decide +kernel
theorem d_z_listsBefore_38 : decode M_z_listsBefore.2.1 38 = .ok (.invokestatic 56, 3) := by decide +kernel
theorem d_z_listsBefore_41 : decode M_z_listsBefore.2.1 41 = .ok (.istore 6, 2) := by decide +kernel
theorem d_z_listsBefore_43 : decode M_z_listsBefore.2.1 43 = .ok (.iload 6, 2) := by decide +kernel
theorem d_z_listsBefore_45 : decode M_z_listsBefore.2.1 45 = .ok (.iload_n 3, 1) := by decide +kernel
theorem d_z_listsBefore_46 : decode M_z_listsBefore.2.1 46 = .ok (.if_icmp .lt 15, 3) := by decide +kernel
theorem d_z_listsBefore_49 : decode M_z_listsBefore.2.1 49 = .ok (.iload 6, 2) := by decide +kernel
theorem d_z_listsBefore_51 : decode M_z_listsBefore.2.1 51 = .ok (.iload_n 3, 1) := by decide +kernel
theorem d_z_listsBefore_52 : decode M_z_listsBefore.2.1 52 = .ok (.if_icmp .ne 12, 3) := by decide +kernel
theorem d_z_listsBefore_55 : decode M_z_listsBefore.2.1 55 = .ok (.iload 5, 2) := by decide +kernel
theorem d_z_listsBefore_57 : decode M_z_listsBefore.2.1 57 = .ok (.iload_n 1, 1) := by decide +kernel
theorem d_z_listsBefore_58 : decode M_z_listsBefore.2.1 58 = .ok (.if_icmp .ge 6, 3) := by decide +kernel
theorem d_z_listsBefore_61 : decode M_z_listsBefore.2.1 61 = .ok (.iinc 4 1, 3) := by decide +kernel
theorem d_z_listsBefore_64 : decode M_z_listsBefore.2.1 64 = .ok (.iinc 5 1, 3) := by decide +kernel
theorem d_z_listsBefore_67 : decode M_z_listsBefore.2.1 67 = .ok (.goto (-48), 3) := by decide +kernel
theorem d_z_listsBefore_70 : decode M_z_listsBefore.2.1 70 = .ok (.iload 4, 2) := by decide +kernel
theorem d_z_listsBefore_72 : decode M_z_listsBefore.2.1 72 = .ok (.ireturn, 1) := by decide +kernel
theorem d_z_codeDistance_0 : decode M_z_codeDistance.2.1 0 = .ok (.aload_n 0, 1) := by decide +kernel
theorem d_z_codeDistance_1 : decode M_z_codeDistance.2.1 1 = .ok (.getfield 27, 3) := by decide +kernel
theorem d_z_codeDistance_4 : decode M_z_codeDistance.2.1 4 = .ok (.iconst 2, 1) := by decide +kernel
theorem d_z_codeDistance_5 : decode M_z_codeDistance.2.1 5 = .ok (.if_icmp .ne 14, 3) := by decide +kernel
theorem d_z_codeDistance_8 : decode M_z_codeDistance.2.1 8 = .ok (.aload_n 1, 1) := by decide +kernel
theorem d_z_codeDistance_9 : decode M_z_codeDistance.2.1 9 = .ok (.aload_n 2, 1) := by decide +kernel
theorem d_z_codeDistance_10 : decode M_z_codeDistance.2.1 10 = .ok (.getfield 60, 3) := by decide +kernel
theorem d_z_codeDistance_13 : decode M_z_codeDistance.2.1 13 = .ok (.iconst 0, 1) := by decide +kernel
theorem d_z_codeDistance_14 : decode M_z_codeDistance.2.1 14 = .ok (.iconst 4, 1) := by decide +kernel
theorem d_z_codeDistance_15 : decode M_z_codeDistance.2.1 15 = .ok (.invokestatic 56, 3) := by decide +kernel
theorem d_z_codeDistance_18 : decode M_z_codeDistance.2.1 18 = .ok (.ireturn, 1) := by decide +kernel
theorem d_z_codeDistance_19 : decode M_z_codeDistance.2.1 19 = .ok (.aload_n 1, 1) := by decide +kernel
theorem d_z_codeDistance_20 : decode M_z_codeDistance.2.1 20 = .ok (.aload_n 0, 1) := by decide +kernel
theorem d_z_codeDistance_21 : decode M_z_codeDistance.2.1 21 = .ok (.getfield 11, 3) := by decide +kernel
theorem d_z_codeDistance_24 : decode M_z_codeDistance.2.1 24 = .ok (.aload_n 2, 1) := by decide +kernel
theorem d_z_codeDistance_25 : decode M_z_codeDistance.2.1 25 = .ok (.getfield 69, 3) := by decide +kernel
theorem d_z_codeDistance_28 : decode M_z_codeDistance.2.1 28 = .ok (.aaload, 1) := by decide +kernel
theorem d_z_codeDistance_29 : decode M_z_codeDistance.2.1 29 = .ok (.aload_n 0, 1) := by decide +kernel
theorem d_z_codeDistance_30 : decode M_z_codeDistance.2.1 30 = .ok (.getfield 19, 3) := by decide +kernel
theorem d_z_codeDistance_33 : decode M_z_codeDistance.2.1 33 = .ok (.invokestatic 72, 3) := by decide +kernel
theorem d_z_codeDistance_36 : decode M_z_codeDistance.2.1 36 = .ok (.iconst 0, 1) := by decide +kernel
theorem d_z_codeDistance_37 : decode M_z_codeDistance.2.1 37 = .ok (.istore_n 3, 1) := by decide +kernel
theorem d_z_codeDistance_38 : decode M_z_codeDistance.2.1 38 = .ok (.iconst 0, 1) := by decide +kernel
theorem d_z_codeDistance_39 : decode M_z_codeDistance.2.1 39 = .ok (.istore 4, 2) := by decide +kernel
theorem d_z_codeDistance_41 : decode M_z_codeDistance.2.1 41 = .ok (.iload 4, 2) := by decide +kernel
theorem d_z_codeDistance_43 : decode M_z_codeDistance.2.1 43 = .ok (.aload_n 0, 1) := by decide +kernel
theorem d_z_codeDistance_44 : decode M_z_codeDistance.2.1 44 = .ok (.getfield 27, 3) := by decide +kernel
theorem d_z_codeDistance_47 : decode M_z_codeDistance.2.1 47 = .ok (.invokestatic 41, 3) := by decide +kernel
theorem d_z_codeDistance_50 : decode M_z_codeDistance.2.1 50 = .ok (.if_icmp .ge 29, 3) := by decide +kernel
theorem d_z_codeDistance_53 : decode M_z_codeDistance.2.1 53 = .ok (.iload_n 3, 1) := by decide +kernel
theorem d_z_codeDistance_54 : decode M_z_codeDistance.2.1 54 = .ok (.aload_n 0, 1) := by decide +kernel
theorem d_z_codeDistance_55 : decode M_z_codeDistance.2.1 55 = .ok (.iload 4, 2) := by decide +kernel
theorem d_z_codeDistance_57 : decode M_z_codeDistance.2.1 57 = .ok (.aload_n 2, 1) := by decide +kernel
theorem d_z_codeDistance_58 : decode M_z_codeDistance.2.1 58 = .ok (.getfield 76, 3) := by decide +kernel
theorem d_z_codeDistance_61 : decode M_z_codeDistance.2.1 61 = .ok (.iload 4, 2) := by decide +kernel
theorem d_z_codeDistance_63 : decode M_z_codeDistance.2.1 63 = .ok (.iaload, 1) := by decide +kernel
theorem d_z_codeDistance_64 : decode M_z_codeDistance.2.1 64 = .ok (.aload_n 0, 1) := by decide +kernel
theorem d_z_codeDistance_65 : decode M_z_codeDistance.2.1 65 = .ok (.getfield 19, 3) := by decide +kernel
theorem d_z_codeDistance_68 : decode M_z_codeDistance.2.1 68 = .ok (.invokevirtual 83, 3) := by decide +kernel
theorem d_z_codeDistance_71 : decode M_z_codeDistance.2.1 71 = .ok (.iadd, 1) := by decide +kernel
theorem d_z_codeDistance_72 : decode M_z_codeDistance.2.1 72 = .ok (.istore_n 3, 1) := by decide +kernel
theorem d_z_codeDistance_73 : decode M_z_codeDistance.2.1 73 = .ok (.iinc 4 1, 3) := by decide +kernel
theorem d_z_codeDistance_76 : decode M_z_codeDistance.2.1 76 = .ok (.goto (-35), 3) := by decide +kernel
theorem d_z_codeDistance_79 : decode M_z_codeDistance.2.1 79 = .ok (.iload_n 3, 1) := by decide +kernel
theorem d_z_codeDistance_80 : decode M_z_codeDistance.2.1 80 = .ok (.ireturn, 1) := by decide +kernel
theorem d_f_sort_0 : decode M_f_sort.2.1 0 = .ok (.iconst 1, 1) := by decide +kernel
theorem d_f_sort_1 : decode M_f_sort.2.1 1 = .ok (.istore_n 2, 1) := by decide +kernel
theorem d_f_sort_2 : decode M_f_sort.2.1 2 = .ok (.iload_n 2, 1) := by decide +kernel
theorem d_f_sort_3 : decode M_f_sort.2.1 3 = .ok (.iload_n 1, 1) := by decide +kernel
theorem d_f_sort_4 : decode M_f_sort.2.1 4 = .ok (.if_icmp .ge 101, 3) := by decide +kernel
theorem d_f_sort_7 : decode M_f_sort.2.1 7 = .ok (.aload_n 0, 1) := by decide +kernel
theorem d_f_sort_8 : decode M_f_sort.2.1 8 = .ok (.getfield 18, 3) := by decide +kernel
theorem d_f_sort_11 : decode M_f_sort.2.1 11 = .ok (.iload_n 2, 1) := by decide +kernel
theorem d_f_sort_12 : decode M_f_sort.2.1 12 = .ok (.iaload, 1) := by decide +kernel
theorem d_f_sort_13 : decode M_f_sort.2.1 13 = .ok (.istore_n 3, 1) := by decide +kernel
theorem d_f_sort_14 : decode M_f_sort.2.1 14 = .ok (.aload_n 0, 1) := by decide +kernel
theorem d_f_sort_15 : decode M_f_sort.2.1 15 = .ok (.getfield 21, 3) := by decide +kernel
theorem d_f_sort_18 : decode M_f_sort.2.1 18 = .ok (.iload_n 2, 1) := by decide +kernel
theorem d_f_sort_19 : decode M_f_sort.2.1 19 = .ok (.iaload, 1) := by decide +kernel
theorem d_f_sort_20 : decode M_f_sort.2.1 20 = .ok (.istore 4, 2) := by decide +kernel
theorem d_f_sort_22 : decode M_f_sort.2.1 22 = .ok (.iload_n 2, 1) := by decide +kernel
theorem d_f_sort_23 : decode M_f_sort.2.1 23 = .ok (.istore 5, 2) := by decide +kernel
theorem d_f_sort_25 : decode M_f_sort.2.1 25 = .ok (.iload 5, 2) := by decide +kernel
theorem d_f_sort_27 : decode M_f_sort.2.1 27 = .ok (.ifCond .le 55, 3) := by decide +kernel
theorem d_f_sort_30 : decode M_f_sort.2.1 30 = .ok (.aload_n 0, 1) := by decide +kernel
theorem d_f_sort_31 : decode M_f_sort.2.1 31 = .ok (.iload 4, 2) := by decide +kernel
theorem d_f_sort_33 : decode M_f_sort.2.1 33 = .ok (.iload_n 3, 1) := by decide +kernel
theorem d_f_sort_34 : decode M_f_sort.2.1 34 = .ok (.iload 5, 2) := by decide +kernel
theorem d_f_sort_36 : decode M_f_sort.2.1 36 = .ok (.iconst 1, 1) := by decide +kernel
theorem d_f_sort_37 : decode M_f_sort.2.1 37 = .ok (.isub, 1) := by decide +kernel
theorem d_f_sort_38 : decode M_f_sort.2.1 38 = .ok (.invokevirtual 97, 3) := by decide +kernel
theorem d_f_sort_41 : decode M_f_sort.2.1 41 = .ok (.ifCond .eq 41, 3) := by decide +kernel
theorem d_f_sort_44 : decode M_f_sort.2.1 44 = .ok (.aload_n 0, 1) := by decide +kernel
theorem d_f_sort_45 : decode M_f_sort.2.1 45 = .ok (.getfield 18, 3) := by decide +kernel
theorem d_f_sort_48 : decode M_f_sort.2.1 48 = .ok (.iload 5, 2) := by decide +kernel
theorem d_f_sort_50 : decode M_f_sort.2.1 50 = .ok (.aload_n 0, 1) := by decide +kernel
theorem d_f_sort_51 : decode M_f_sort.2.1 51 = .ok (.getfield 18, 3) := by decide +kernel
theorem d_f_sort_54 : decode M_f_sort.2.1 54 = .ok (.iload 5, 2) := by decide +kernel
theorem d_f_sort_56 : decode M_f_sort.2.1 56 = .ok (.iconst 1, 1) := by decide +kernel
theorem d_f_sort_57 : decode M_f_sort.2.1 57 = .ok (.isub, 1) := by decide +kernel
theorem d_f_sort_58 : decode M_f_sort.2.1 58 = .ok (.iaload, 1) := by decide +kernel
theorem d_f_sort_59 : decode M_f_sort.2.1 59 = .ok (.iastore, 1) := by decide +kernel
theorem d_f_sort_60 : decode M_f_sort.2.1 60 = .ok (.aload_n 0, 1) := by decide +kernel
theorem d_f_sort_61 : decode M_f_sort.2.1 61 = .ok (.getfield 21, 3) := by decide +kernel
theorem d_f_sort_64 : decode M_f_sort.2.1 64 = .ok (.iload 5, 2) := by decide +kernel
theorem d_f_sort_66 : decode M_f_sort.2.1 66 = .ok (.aload_n 0, 1) := by decide +kernel
theorem d_f_sort_67 : decode M_f_sort.2.1 67 = .ok (.getfield 21, 3) := by decide +kernel
theorem d_f_sort_70 : decode M_f_sort.2.1 70 = .ok (.iload 5, 2) := by decide +kernel
theorem d_f_sort_72 : decode M_f_sort.2.1 72 = .ok (.iconst 1, 1) := by decide +kernel
theorem d_f_sort_73 : decode M_f_sort.2.1 73 = .ok (.isub, 1) := by decide +kernel
theorem d_f_sort_74 : decode M_f_sort.2.1 74 = .ok (.iaload, 1) := by decide +kernel
theorem d_f_sort_75 : decode M_f_sort.2.1 75 = .ok (.iastore, 1) := by decide +kernel
theorem d_f_sort_76 : decode M_f_sort.2.1 76 = .ok (.iinc 5 (-1), 3) := by decide +kernel
theorem d_f_sort_79 : decode M_f_sort.2.1 79 = .ok (.goto (-54), 3) := by decide +kernel
theorem d_f_sort_82 : decode M_f_sort.2.1 82 = .ok (.aload_n 0, 1) := by decide +kernel
theorem d_f_sort_83 : decode M_f_sort.2.1 83 = .ok (.getfield 18, 3) := by decide +kernel
theorem d_f_sort_86 : decode M_f_sort.2.1 86 = .ok (.iload 5, 2) := by decide +kernel
theorem d_f_sort_88 : decode M_f_sort.2.1 88 = .ok (.iload_n 3, 1) := by decide +kernel
theorem d_f_sort_89 : decode M_f_sort.2.1 89 = .ok (.iastore, 1) := by decide +kernel
theorem d_f_sort_90 : decode M_f_sort.2.1 90 = .ok (.aload_n 0, 1) := by decide +kernel
theorem d_f_sort_91 : decode M_f_sort.2.1 91 = .ok (.getfield 21, 3) := by decide +kernel
theorem d_f_sort_94 : decode M_f_sort.2.1 94 = .ok (.iload 5, 2) := by decide +kernel
theorem d_f_sort_96 : decode M_f_sort.2.1 96 = .ok (.iload 4, 2) := by decide +kernel
theorem d_f_sort_98 : decode M_f_sort.2.1 98 = .ok (.iastore, 1) := by decide +kernel
