theorem d_L_unit_0 : decode b_L_unit 0 = .ok (.aload_n 3, 1) := by decide +kernel
theorem d_L_unit_1 : decode b_L_unit 1 = .ok (.iconst 0, 1) := by decide +kernel
theorem d_L_unit_2 : decode b_L_unit 2 = .ok (.aload_n 0, 1) := by decide +kernel
theorem d_L_unit_3 : decode b_L_unit 3 = .ok (.iload_n 1, 1) := by decide +kernel
theorem d_L_unit_4 : decode b_L_unit 4 = .ok (.iload_n 2, 1) := by decide +kernel
theorem d_L_unit_5 : decode b_L_unit 5 = .ok (.invokevirtual 7, 3) := by decide +kernel
theorem d_L_unit_8 : decode b_L_unit 8 = .ok (.i2l, 1) := by decide +kernel
theorem d_L_unit_9 : decode b_L_unit 9 = .ok (.lastore, 1) := by decide +kernel
theorem d_L_unit_10 : decode b_L_unit 10 = .ok (.goto 11, 3) := by decide +kernel
theorem d_L_unit_13 : decode b_L_unit 13 = .ok (.astore 4, 2) := by decide +kernel
theorem d_L_unit_15 : decode b_L_unit 15 = .ok (.iconst 1, 1) := by decide +kernel
theorem d_L_unit_16 : decode b_L_unit 16 = .ok (.ireturn, 1) := by decide +kernel
theorem d_L_unit_17 : decode b_L_unit 17 = .ok (.astore 4, 2) := by decide +kernel
theorem d_L_unit_19 : decode b_L_unit 19 = .ok (.iconst 2, 1) := by decide +kernel
theorem d_L_unit_20 : decode b_L_unit 20 = .ok (.ireturn, 1) := by decide +kernel
theorem d_L_unit_21 : decode b_L_unit 21 = .ok (.iconst 0, 1) := by decide +kernel
theorem d_L_unit_22 : decode b_L_unit 22 = .ok (.ireturn, 1) := by decide +kernel
theorem d_L_read_0 : decode b_L_read 0 = .ok (.aload_n 1, 1) := by decide +kernel
theorem d_L_read_1 : decode b_L_read 1 = .ok (.iconst 0, 1) := by decide +kernel
theorem d_L_read_2 : decode b_L_read 2 = .ok (.aload_n 0, 1) := by decide +kernel
theorem d_L_read_3 : decode b_L_read 3 = .ok (.invokevirtual 17, 3) := by decide +kernel
theorem d_L_read_6 : decode b_L_read 6 = .ok (.i2l, 1) := by decide +kernel
theorem d_L_read_7 : decode b_L_read 7 = .ok (.lastore, 1) := by decide +kernel
theorem d_L_read_8 : decode b_L_read 8 = .ok (.goto 6, 3) := by decide +kernel
theorem d_L_read_11 : decode b_L_read 11 = .ok (.astore_n 2, 1) := by decide +kernel
theorem d_L_read_12 : decode b_L_read 12 = .ok (.iconst 1, 1) := by decide +kernel
theorem d_L_read_13 : decode b_L_read 13 = .ok (.ireturn, 1) := by decide +kernel
theorem d_L_read_14 : decode b_L_read 14 = .ok (.iconst 0, 1) := by decide +kernel
theorem d_L_read_15 : decode b_L_read 15 = .ok (.ireturn, 1) := by decide +kernel
theorem d_L_width_0 : decode b_L_width 0 = .ok (.aload_n 3, 1) := by decide +kernel
theorem d_L_width_1 : decode b_L_width 1 = .ok (.iconst 0, 1) := by decide +kernel
theorem d_L_width_2 : decode b_L_width 2 = .ok (.aload_n 0, 1) := by decide +kernel
theorem d_L_width_3 : decode b_L_width 3 = .ok (.iload_n 1, 1) := by decide +kernel
theorem d_L_width_4 : decode b_L_width 4 = .ok (.iload_n 2, 1) := by decide +kernel
theorem d_L_width_5 : decode b_L_width 5 = .ok (.invokevirtual 21, 3) := by decide +kernel
theorem d_L_width_8 : decode b_L_width 8 = .ok (.i2l, 1) := by decide +kernel
theorem d_L_width_9 : decode b_L_width 9 = .ok (.lastore, 1) := by decide +kernel
theorem d_L_width_10 : decode b_L_width 10 = .ok (.goto 7, 3) := by decide +kernel
theorem d_L_width_13 : decode b_L_width 13 = .ok (.astore 4, 2) := by decide +kernel
theorem d_L_width_15 : decode b_L_width 15 = .ok (.iconst 1, 1) := by decide +kernel
theorem d_L_width_16 : decode b_L_width 16 = .ok (.ireturn, 1) := by decide +kernel
theorem d_L_width_17 : decode b_L_width 17 = .ok (.iconst 0, 1) := by decide +kernel
theorem d_L_width_18 : decode b_L_width 18 = .ok (.ireturn, 1) := by decide +kernel
theorem d_L_written_0 : decode b_L_written 0 = .ok (.aload_n 3, 1) := by decide +kernel
theorem d_L_written_1 : decode b_L_written 1 = .ok (.iconst 0, 1) := by decide +kernel
theorem d_L_written_2 : decode b_L_written 2 = .ok (.aload_n 0, 1) := by decide +kernel
theorem d_L_written_3 : decode b_L_written 3 = .ok (.iload_n 1, 1) := by decide +kernel
theorem d_L_written_4 : decode b_L_written 4 = .ok (.iload_n 2, 1) := by decide +kernel
theorem d_L_written_5 : decode b_L_written 5 = .ok (.invokevirtual 26, 3) := by decide +kernel
theorem d_L_written_8 : decode b_L_written 8 = .ok (.i2l, 1) := by decide +kernel
theorem d_L_written_9 : decode b_L_written 9 = .ok (.lastore, 1) := by decide +kernel
theorem d_L_written_10 : decode b_L_written 10 = .ok (.goto 7, 3) := by decide +kernel
theorem d_L_written_13 : decode b_L_written 13 = .ok (.astore 4, 2) := by decide +kernel
theorem d_L_written_15 : decode b_L_written 15 = .ok (.iconst 1, 1) := by decide +kernel
theorem d_L_written_16 : decode b_L_written 16 = .ok (.ireturn, 1) := by decide +kernel
theorem d_L_written_17 : decode b_L_written 17 = .ok (.iconst 0, 1) := by decide +kernel
theorem d_L_written_18 : decode b_L_written 18 = .ok (.ireturn, 1) := by decide +kernel
theorem d_L_evened_0 : decode b_L_evened 0 = .ok (.aload_n 3, 1) := by decide +kernel
theorem d_L_evened_1 : decode b_L_evened 1 = .ok (.iconst 0, 1) := by decide +kernel
theorem d_L_evened_2 : decode b_L_evened 2 = .ok (.aload_n 0, 1) := by decide +kernel
theorem d_L_evened_3 : decode b_L_evened 3 = .ok (.iload_n 1, 1) := by decide +kernel
theorem d_L_evened_4 : decode b_L_evened 4 = .ok (.iload_n 2, 1) := by decide +kernel
theorem d_L_evened_5 : decode b_L_evened 5 = .ok (.invokevirtual 29, 3) := by decide +kernel
theorem d_L_evened_8 : decode b_L_evened 8 = .ok (.i2l, 1) := by decide +kernel
theorem d_L_evened_9 : decode b_L_evened 9 = .ok (.lastore, 1) := by decide +kernel
theorem d_L_evened_10 : decode b_L_evened 10 = .ok (.goto 7, 3) := by decide +kernel
theorem d_L_evened_13 : decode b_L_evened 13 = .ok (.astore 4, 2) := by decide +kernel
theorem d_L_evened_15 : decode b_L_evened 15 = .ok (.iconst 1, 1) := by decide +kernel
theorem d_L_evened_16 : decode b_L_evened 16 = .ok (.ireturn, 1) := by decide +kernel
theorem d_L_evened_17 : decode b_L_evened 17 = .ok (.iconst 0, 1) := by decide +kernel
theorem d_L_evened_18 : decode b_L_evened 18 = .ok (.ireturn, 1) := by decide +kernel
theorem d_L_match_0 : decode b_L_match 0 = .ok (.aload 4, 2) := by decide +kernel
theorem d_L_match_2 : decode b_L_match 2 = .ok (.iconst 0, 1) := by decide +kernel
theorem d_L_match_3 : decode b_L_match 3 = .ok (.aload_n 0, 1) := by decide +kernel
theorem d_L_match_4 : decode b_L_match 4 = .ok (.iload_n 1, 1) := by decide +kernel
theorem d_L_match_5 : decode b_L_match 5 = .ok (.iload_n 2, 1) := by decide +kernel
theorem d_L_match_6 : decode b_L_match 6 = .ok (.iload_n 3, 1) := by decide +kernel
theorem d_L_match_7 : decode b_L_match 7 = .ok (.invokevirtual 32, 3) := by decide +kernel
theorem d_L_match_10 : decode b_L_match 10 = .ok (.i2l, 1) := by decide +kernel
theorem d_L_match_11 : decode b_L_match 11 = .ok (.lastore, 1) := by decide +kernel
theorem d_L_match_12 : decode b_L_match 12 = .ok (.goto 11, 3) := by decide +kernel
theorem d_L_match_15 : decode b_L_match 15 = .ok (.astore 5, 2) := by decide +kernel
theorem d_L_match_17 : decode b_L_match 17 = .ok (.iconst 1, 1) := by decide +kernel
theorem d_L_match_18 : decode b_L_match 18 = .ok (.ireturn, 1) := by decide +kernel
theorem d_L_match_19 : decode b_L_match 19 = .ok (.astore 5, 2) := by decide +kernel
theorem d_L_match_21 : decode b_L_match 21 = .ok (.iconst 2, 1) := by decide +kernel
theorem d_L_match_22 : decode b_L_match 22 = .ok (.ireturn, 1) := by decide +kernel
theorem d_L_match_23 : decode b_L_match 23 = .ok (.iconst 0, 1) := by decide +kernel
theorem d_L_match_24 : decode b_L_match 24 = .ok (.ireturn, 1) := by decide +kernel
theorem d_L_overlap_0 : decode b_L_overlap 0 = .ok (.aload_n 3, 1) := by decide +kernel
theorem d_L_overlap_1 : decode b_L_overlap 1 = .ok (.iconst 0, 1) := by decide +kernel
theorem d_L_overlap_2 : decode b_L_overlap 2 = .ok (.aload_n 0, 1) := by decide +kernel
theorem d_L_overlap_3 : decode b_L_overlap 3 = .ok (.iload_n 1, 1) := by decide +kernel
theorem d_L_overlap_4 : decode b_L_overlap 4 = .ok (.iload_n 2, 1) := by decide +kernel
theorem d_L_overlap_5 : decode b_L_overlap 5 = .ok (.invokevirtual 36, 3) := by decide +kernel
theorem d_L_overlap_8 : decode b_L_overlap 8 = .ok (.i2l, 1) := by decide +kernel
theorem d_L_overlap_9 : decode b_L_overlap 9 = .ok (.lastore, 1) := by decide +kernel
theorem d_L_overlap_10 : decode b_L_overlap 10 = .ok (.goto 7, 3) := by decide +kernel
theorem d_L_overlap_13 : decode b_L_overlap 13 = .ok (.astore 4, 2) := by decide +kernel
theorem d_L_overlap_15 : decode b_L_overlap 15 = .ok (.iconst 1, 1) := by decide +kernel
theorem d_L_overlap_16 : decode b_L_overlap 16 = .ok (.ireturn, 1) := by decide +kernel
theorem d_L_overlap_17 : decode b_L_overlap 17 = .ok (.iconst 0, 1) := by decide +kernel
theorem d_L_overlap_18 : decode b_L_overlap 18 = .ok (.ireturn, 1) := by decide +kernel
theorem d_L_agree_0 : decode b_L_agree 0 = .ok (.aload_n 3, 1) := by decide +kernel
theorem d_L_agree_1 : decode b_L_agree 1 = .ok (.iconst 0, 1) := by decide +kernel
theorem d_L_agree_2 : decode b_L_agree 2 = .ok (.aload_n 0, 1) := by decide +kernel
theorem d_L_agree_3 : decode b_L_agree 3 = .ok (.iload_n 1, 1) := by decide +kernel
theorem d_L_agree_4 : decode b_L_agree 4 = .ok (.iload_n 2, 1) := by decide +kernel
theorem d_L_agree_5 : decode b_L_agree 5 = .ok (.invokevirtual 39, 3) := by decide +kernel
theorem d_L_agree_8 : decode b_L_agree 8 = .ok (.i2l, 1) := by decide +kernel
theorem d_L_agree_9 : decode b_L_agree 9 = .ok (.lastore, 1) := by decide +kernel
theorem d_L_agree_10 : decode b_L_agree 10 = .ok (.goto 7, 3) := by decide +kernel
theorem d_L_agree_13 : decode b_L_agree 13 = .ok (.astore 4, 2) := by decide +kernel
theorem d_L_agree_15 : decode b_L_agree 15 = .ok (.iconst 1, 1) := by decide +kernel
theorem d_L_agree_16 : decode b_L_agree 16 = .ok (.ireturn, 1) := by decide +kernel
theorem d_L_agree_17 : decode b_L_agree 17 = .ok (.iconst 0, 1) := by decide +kernel
theorem d_L_agree_18 : decode b_L_agree 18 = .ok (.ireturn, 1) := by decide +kernel
theorem d_L_odds_0 : decode b_L_odds 0 = .ok (.aload_n 3, 1) := by decide +kernel
theorem d_L_odds_1 : decode b_L_odds 1 = .ok (.iconst 0, 1) := by decide +kernel
theorem d_L_odds_2 : decode b_L_odds 2 = .ok (.aload_n 0, 1) := by decide +kernel
theorem d_L_odds_3 : decode b_L_odds 3 = .ok (.iload_n 1, 1) := by decide +kernel
theorem d_L_odds_4 : decode b_L_odds 4 = .ok (.iload_n 2, 1) := by decide +kernel
theorem d_L_odds_5 : decode b_L_odds 5 = .ok (.invokevirtual 42, 3) := by decide +kernel
theorem d_L_odds_8 : decode b_L_odds 8 = .ok (.lastore, 1) := by decide +kernel
theorem d_L_odds_9 : decode b_L_odds 9 = .ok (.goto 7, 3) := by decide +kernel
theorem d_L_odds_12 : decode b_L_odds 12 = .ok (.astore 4, 2) := by decide +kernel
theorem d_L_odds_14 : decode b_L_odds 14 = .ok (.iconst 1, 1) := by decide +kernel
theorem d_L_odds_15 : decode b_L_odds 15 = .ok (.ireturn, 1) := by decide +kernel
theorem d_L_odds_16 : decode b_L_odds 16 = .ok (.iconst 0, 1) := by decide +kernel
theorem d_L_odds_17 : decode b_L_odds 17 = .ok (.ireturn, 1) := by decide +kernel
theorem d_L_absent_0 : decode b_L_absent 0 = .ok (.aload 4, 2) := by decide +kernel
theorem d_L_absent_2 : decode b_L_absent 2 = .ok (.iconst 0, 1) := by decide +kernel
theorem d_L_absent_3 : decode b_L_absent 3 = .ok (.aload_n 0, 1) := by decide +kernel
theorem d_L_absent_4 : decode b_L_absent 4 = .ok (.iload_n 1, 1) := by decide +kernel
theorem d_L_absent_5 : decode b_L_absent 5 = .ok (.iload_n 2, 1) := by decide +kernel
theorem d_L_absent_6 : decode b_L_absent 6 = .ok (.iload_n 3, 1) := by decide +kernel
theorem d_L_absent_7 : decode b_L_absent 7 = .ok (.invokevirtual 46, 3) := by decide +kernel
theorem d_L_absent_10 : decode b_L_absent 10 = .ok (.i2l, 1) := by decide +kernel
theorem d_L_absent_11 : decode b_L_absent 11 = .ok (.lastore, 1) := by decide +kernel
theorem d_L_absent_12 : decode b_L_absent 12 = .ok (.goto 11, 3) := by decide +kernel
theorem d_L_absent_15 : decode b_L_absent 15 = .ok (.astore 5, 2) := by decide +kernel
theorem d_L_absent_17 : decode b_L_absent 17 = .ok (.iconst 1, 1) := by decide +kernel
theorem d_L_absent_18 : decode b_L_absent 18 = .ok (.ireturn, 1) := by decide +kernel
theorem d_L_absent_19 : decode b_L_absent 19 = .ok (.astore 5, 2) := by decide +kernel
theorem d_L_absent_21 : decode b_L_absent 21 = .ok (.iconst 2, 1) := by decide +kernel
theorem d_L_absent_22 : decode b_L_absent 22 = .ok (.ireturn, 1) := by decide +kernel
theorem d_L_absent_23 : decode b_L_absent 23 = .ok (.iconst 0, 1) := by decide +kernel
theorem d_L_absent_24 : decode b_L_absent 24 = .ok (.ireturn, 1) := by decide +kernel
theorem d_L_core_0 : decode b_L_core 0 = .ok (.aload 4, 2) := by decide +kernel
theorem d_L_core_2 : decode b_L_core 2 = .ok (.iconst 0, 1) := by decide +kernel
theorem d_L_core_3 : decode b_L_core 3 = .ok (.aload_n 0, 1) := by decide +kernel
theorem d_L_core_4 : decode b_L_core 4 = .ok (.iload_n 1, 1) := by decide +kernel
theorem d_L_core_5 : decode b_L_core 5 = .ok (.iload_n 2, 1) := by decide +kernel
theorem d_L_core_6 : decode b_L_core 6 = .ok (.iload_n 3, 1) := by decide +kernel
theorem d_L_core_7 : decode b_L_core 7 = .ok (.invokevirtual 49, 3) := by decide +kernel
theorem d_L_core_10 : decode b_L_core 10 = .ok (.i2l, 1) := by decide +kernel
theorem d_L_core_11 : decode b_L_core 11 = .ok (.lastore, 1) := by decide +kernel
theorem d_L_core_12 : decode b_L_core 12 = .ok (.goto 11, 3) := by decide +kernel
theorem d_L_core_15 : decode b_L_core 15 = .ok (.astore 5, 2) := by decide +kernel
theorem d_L_core_17 : decode b_L_core 17 = .ok (.iconst 1, 1) := by decide +kernel
theorem d_L_core_18 : decode b_L_core 18 = .ok (.ireturn, 1) := by decide +kernel
theorem d_L_core_19 : decode b_L_core 19 = .ok (.astore 5, 2) := by decide +kernel
theorem d_L_core_21 : decode b_L_core 21 = .ok (.iconst 2, 1) := by decide +kernel
theorem d_L_core_22 : decode b_L_core 22 = .ok (.ireturn, 1) := by decide +kernel
theorem d_L_core_23 : decode b_L_core 23 = .ok (.iconst 0, 1) := by decide +kernel
theorem d_L_core_24 : decode b_L_core 24 = .ok (.ireturn, 1) := by decide +kernel
theorem d_L_group_0 : decode b_L_group 0 = .ok (.aload 4, 2) := by decide +kernel
theorem d_L_group_2 : decode b_L_group 2 = .ok (.iconst 0, 1) := by decide +kernel
theorem d_L_group_3 : decode b_L_group 3 = .ok (.aload_n 0, 1) := by decide +kernel
theorem d_L_group_4 : decode b_L_group 4 = .ok (.iload_n 1, 1) := by decide +kernel
theorem d_L_group_5 : decode b_L_group 5 = .ok (.iload_n 2, 1) := by decide +kernel
theorem d_L_group_6 : decode b_L_group 6 = .ok (.iload_n 3, 1) := by decide +kernel
theorem d_L_group_7 : decode b_L_group 7 = .ok (.invokevirtual 52, 3) := by decide +kernel
theorem d_L_group_10 : decode b_L_group 10 = .ok (.i2l, 1) := by decide +kernel
theorem d_L_group_11 : decode b_L_group 11 = .ok (.lastore, 1) := by decide +kernel
theorem d_L_group_12 : decode b_L_group 12 = .ok (.goto 11, 3) := by decide +kernel
theorem d_L_group_15 : decode b_L_group 15 = .ok (.astore 5, 2) := by decide +kernel
theorem d_L_group_17 : decode b_L_group 17 = .ok (.iconst 1, 1) := by decide +kernel
theorem d_L_group_18 : decode b_L_group 18 = .ok (.ireturn, 1) := by decide +kernel
theorem d_L_group_19 : decode b_L_group 19 = .ok (.astore 5, 2) := by decide +kernel
theorem d_L_group_21 : decode b_L_group 21 = .ok (.iconst 2, 1) := by decide +kernel
theorem d_L_group_22 : decode b_L_group 22 = .ok (.ireturn, 1) := by decide +kernel
theorem d_L_group_23 : decode b_L_group 23 = .ok (.iconst 0, 1) := by decide +kernel
theorem d_L_group_24 : decode b_L_group 24 = .ok (.ireturn, 1) := by decide +kernel
theorem d_L_count_0 : decode b_L_count 0 = .ok (.aload_n 2, 1) := by decide +kernel
theorem d_L_count_1 : decode b_L_count 1 = .ok (.iconst 0, 1) := by decide +kernel
theorem d_L_count_2 : decode b_L_count 2 = .ok (.aload_n 0, 1) := by decide +kernel
theorem d_L_count_3 : decode b_L_count 3 = .ok (.iload_n 1, 1) := by decide +kernel
theorem d_L_count_4 : decode b_L_count 4 = .ok (.invokevirtual 55, 3) := by decide +kernel
theorem d_L_count_7 : decode b_L_count 7 = .ok (.i2l, 1) := by decide +kernel
theorem d_L_count_8 : decode b_L_count 8 = .ok (.lastore, 1) := by decide +kernel
theorem d_L_count_9 : decode b_L_count 9 = .ok (.goto 6, 3) := by decide +kernel
theorem d_L_count_12 : decode b_L_count 12 = .ok (.astore_n 3, 1) := by decide +kernel
theorem d_L_count_13 : decode b_L_count 13 = .ok (.iconst 1, 1) := by decide +kernel
theorem d_L_count_14 : decode b_L_count 14 = .ok (.ireturn, 1) := by decide +kernel
theorem d_L_count_15 : decode b_L_count 15 = .ok (.iconst 0, 1) := by decide +kernel
theorem d_L_count_16 : decode b_L_count 16 = .ok (.ireturn, 1) := by decide +kernel
theorem d_L_law_0 : decode b_L_law 0 = .ok (.new 8, 3) := by decide +kernel
theorem d_L_law_3 : decode b_L_law 3 = .ok (.dup, 1) := by decide +kernel
theorem d_L_law_4 : decode b_L_law 4 = .ok (.invokespecial 59, 3) := by decide +kernel
theorem d_L_law_7 : decode b_L_law 7 = .ok (.astore_n 1, 1) := by decide +kernel
theorem d_L_law_8 : decode b_L_law 8 = .ok (.new 60, 3) := by decide +kernel
theorem d_L_law_11 : decode b_L_law 11 = .ok (.dup, 1) := by decide +kernel
theorem d_L_law_12 : decode b_L_law 12 = .ok (.invokespecial 62, 3) := by decide +kernel
theorem d_L_law_15 : decode b_L_law 15 = .ok (.astore_n 2, 1) := by decide +kernel
theorem d_L_law_16 : decode b_L_law 16 = .ok (.iconst 1, 1) := by decide +kernel
theorem d_L_law_17 : decode b_L_law 17 = .ok (.newarray .long, 2) := by decide +kernel
theorem d_L_law_19 : decode b_L_law 19 = .ok (.astore_n 3, 1) := by decide +kernel
theorem d_L_law_20 : decode b_L_law 20 = .ok (.iconst 0, 1) := by decide +kernel
theorem d_L_law_21 : decode b_L_law 21 = .ok (.istore 4, 2) := by decide +kernel
theorem d_L_law_23 : decode b_L_law 23 = .ok (.iload 4, 2) := by decide +kernel
theorem d_L_law_25 : decode b_L_law 25 = .ok (.aload_n 0, 1) := by decide +kernel
theorem d_L_law_26 : decode b_L_law 26 = .ok (.arraylength, 1) := by decide +kernel
theorem d_L_law_27 : decode b_L_law 27 = .ok (.iconst 4, 1) := by decide +kernel
theorem d_L_law_28 : decode b_L_law 28 = .ok (.isub, 1) := by decide +kernel
theorem d_L_law_29 : decode b_L_law 29 = .ok (.if_icmp .gt 976, 3) := by decide +kernel
theorem d_L_law_32 : decode b_L_law 32 = .ok (.aload_n 0, 1) := by decide +kernel
theorem d_L_law_33 : decode b_L_law 33 = .ok (.iload 4, 2) := by decide +kernel
theorem d_L_law_35 : decode b_L_law 35 = .ok (.iaload, 1) := by decide +kernel
theorem d_L_law_36 : decode b_L_law 36 = .ok (.bipush 15, 2) := by decide +kernel
theorem d_L_law_38 : decode b_L_law 38 = .ok (.iand, 1) := by decide +kernel
theorem d_L_law_39 : decode b_L_law 39 = .ok (.tableswitch 960 0 12 #[65, 133, 177, 245, 313, 381, 461, 529, 597, 664, 744, 824, 904], 65) := by decide +kernel
theorem d_L_law_104 : decode b_L_law 104 = .ok (.aload_n 1, 1) := by decide +kernel
theorem d_L_law_105 : decode b_L_law 105 = .ok (.aload_n 0, 1) := by decide +kernel
theorem d_L_law_106 : decode b_L_law 106 = .ok (.iload 4, 2) := by decide +kernel
theorem d_L_law_108 : decode b_L_law 108 = .ok (.iconst 1, 1) := by decide +kernel
theorem d_L_law_109 : decode b_L_law 109 = .ok (.iadd, 1) := by decide +kernel
theorem d_L_law_110 : decode b_L_law 110 = .ok (.iaload, 1) := by decide +kernel
theorem d_L_law_111 : decode b_L_law 111 = .ok (.aload_n 0, 1) := by decide +kernel
theorem d_L_law_112 : decode b_L_law 112 = .ok (.iload 4, 2) := by decide +kernel
theorem d_L_law_114 : decode b_L_law 114 = .ok (.iconst 2, 1) := by decide +kernel
theorem d_L_law_115 : decode b_L_law 115 = .ok (.iadd, 1) := by decide +kernel
theorem d_L_law_116 : decode b_L_law 116 = .ok (.iaload, 1) := by decide +kernel
theorem d_L_law_117 : decode b_L_law 117 = .ok (.aload_n 3, 1) := by decide +kernel
theorem d_L_law_118 : decode b_L_law 118 = .ok (.invokestatic 63, 3) := by decide +kernel
theorem d_L_law_121 : decode b_L_law 121 = .ok (.istore 5, 2) := by decide +kernel
theorem d_L_law_123 : decode b_L_law 123 = .ok (.aload_n 2, 1) := by decide +kernel
theorem d_L_law_124 : decode b_L_law 124 = .ok (.aload_n 0, 1) := by decide +kernel
theorem d_L_law_125 : decode b_L_law 125 = .ok (.iload 4, 2) := by decide +kernel
theorem d_L_law_127 : decode b_L_law 127 = .ok (.iconst 1, 1) := by decide +kernel
theorem d_L_law_128 : decode b_L_law 128 = .ok (.iadd, 1) := by decide +kernel
theorem d_L_law_129 : decode b_L_law 129 = .ok (.iaload, 1) := by decide +kernel
theorem d_L_law_130 : decode b_L_law 130 = .ok (.aload_n 0, 1) := by decide +kernel
theorem d_L_law_131 : decode b_L_law 131 = .ok (.iload 4, 2) := by decide +kernel
theorem d_L_law_133 : decode b_L_law 133 = .ok (.iconst 2, 1) := by decide +kernel
theorem d_L_law_134 : decode b_L_law 134 = .ok (.iadd, 1) := by decide +kernel
theorem d_L_law_135 : decode b_L_law 135 = .ok (.iaload, 1) := by decide +kernel
theorem d_L_law_136 : decode b_L_law 136 = .ok (.invokevirtual 68, 3) := by decide +kernel
theorem d_L_law_139 : decode b_L_law 139 = .ok (.istore 6, 2) := by decide +kernel
theorem d_L_law_141 : decode b_L_law 141 = .ok (.aload_n 2, 1) := by decide +kernel
theorem d_L_law_142 : decode b_L_law 142 = .ok (.invokevirtual 69, 3) := by decide +kernel
theorem d_L_law_145 : decode b_L_law 145 = .ok (.iload 5, 2) := by decide +kernel
theorem d_L_law_147 : decode b_L_law 147 = .ok (.if_icmp .eq 5, 3) := by decide +kernel
theorem d_L_law_150 : decode b_L_law 150 = .ok (.iconst 0, 1) := by decide +kernel
theorem d_L_law_151 : decode b_L_law 151 = .ok (.ireturn, 1) := by decide +kernel
theorem d_L_law_152 : decode b_L_law 152 = .ok (.iload 5, 2) := by decide +kernel
theorem d_L_law_154 : decode b_L_law 154 = .ok (.ifCond .ne 15, 3) := by decide +kernel
theorem d_L_law_157 : decode b_L_law 157 = .ok (.aload_n 3, 1) := by decide +kernel
theorem d_L_law_158 : decode b_L_law 158 = .ok (.iconst 0, 1) := by decide +kernel
theorem d_L_law_159 : decode b_L_law 159 = .ok (.laload, 1) := by decide +kernel
theorem d_L_law_160 : decode b_L_law 160 = .ok (.iload 6, 2) := by decide +kernel
theorem d_L_law_162 : decode b_L_law 162 = .ok (.i2l, 1) := by decide +kernel
theorem d_L_law_163 : decode b_L_law 163 = .ok (.lcmp, 1) := by decide +kernel
theorem d_L_law_164 : decode b_L_law 164 = .ok (.ifCond .eq 5, 3) := by decide +kernel
theorem d_L_law_167 : decode b_L_law 167 = .ok (.iconst 0, 1) := by decide +kernel
theorem d_L_law_168 : decode b_L_law 168 = .ok (.ireturn, 1) := by decide +kernel
theorem d_L_law_169 : decode b_L_law 169 = .ok (.goto 830, 3) := by decide +kernel
theorem d_L_law_172 : decode b_L_law 172 = .ok (.aload_n 1, 1) := by decide +kernel
theorem d_L_law_173 : decode b_L_law 173 = .ok (.aload_n 3, 1) := by decide +kernel
theorem d_L_law_174 : decode b_L_law 174 = .ok (.invokestatic 72, 3) := by decide +kernel
theorem d_L_law_177 : decode b_L_law 177 = .ok (.istore 5, 2) := by decide +kernel
theorem d_L_law_179 : decode b_L_law 179 = .ok (.aload_n 2, 1) := by decide +kernel
theorem d_L_law_180 : decode b_L_law 180 = .ok (.invokevirtual 75, 3) := by decide +kernel
theorem d_L_law_183 : decode b_L_law 183 = .ok (.istore 6, 2) := by decide +kernel
theorem d_L_law_185 : decode b_L_law 185 = .ok (.aload_n 2, 1) := by decide +kernel
theorem d_L_law_186 : decode b_L_law 186 = .ok (.invokevirtual 69, 3) := by decide +kernel
theorem d_L_law_189 : decode b_L_law 189 = .ok (.iload 5, 2) := by decide +kernel
theorem d_L_law_191 : decode b_L_law 191 = .ok (.if_icmp .eq 5, 3) := by decide +kernel
theorem d_L_law_194 : decode b_L_law 194 = .ok (.iconst 0, 1) := by decide +kernel
theorem d_L_law_195 : decode b_L_law 195 = .ok (.ireturn, 1) := by decide +kernel
theorem d_L_law_196 : decode b_L_law 196 = .ok (.iload 5, 2) := by decide +kernel
theorem d_L_law_198 : decode b_L_law 198 = .ok (.ifCond .ne 15, 3) := by decide +kernel
theorem d_L_law_201 : decode b_L_law 201 = .ok (.aload_n 3, 1) := by decide +kernel
theorem d_L_law_202 : decode b_L_law 202 = .ok (.iconst 0, 1) := by decide +kernel
theorem d_L_law_203 : decode b_L_law 203 = .ok (.laload, 1) := by decide +kernel
theorem d_L_law_204 : decode b_L_law 204 = .ok (.iload 6, 2) := by decide +kernel
theorem d_L_law_206 : decode b_L_law 206 = .ok (.i2l, 1) := by decide +kernel
theorem d_L_law_207 : decode b_L_law 207 = .ok (.lcmp, 1) := by decide +kernel
theorem d_L_law_208 : decode b_L_law 208 = .ok (.ifCond .eq 5, 3) := by decide +kernel
theorem d_L_law_211 : decode b_L_law 211 = .ok (.iconst 0, 1) := by decide +kernel
theorem d_L_law_212 : decode b_L_law 212 = .ok (.ireturn, 1) := by decide +kernel
theorem d_L_law_213 : decode b_L_law 213 = .ok (.goto 786, 3) := by decide +kernel
theorem d_L_law_216 : decode b_L_law 216 = .ok (.aload_n 1, 1) := by decide +kernel
theorem d_L_law_217 : decode b_L_law 217 = .ok (.aload_n 0, 1) := by decide +kernel
theorem d_L_law_218 : decode b_L_law 218 = .ok (.iload 4, 2) := by decide +kernel
theorem d_L_law_220 : decode b_L_law 220 = .ok (.iconst 1, 1) := by decide +kernel
theorem d_L_law_221 : decode b_L_law 221 = .ok (.iadd, 1) := by decide +kernel
theorem d_L_law_222 : decode b_L_law 222 = .ok (.iaload, 1) := by decide +kernel
theorem d_L_law_223 : decode b_L_law 223 = .ok (.aload_n 0, 1) := by decide +kernel
theorem d_L_law_224 : decode b_L_law 224 = .ok (.iload 4, 2) := by decide +kernel
theorem d_L_law_226 : decode b_L_law 226 = .ok (.iconst 2, 1) := by decide +kernel
theorem d_L_law_227 : decode b_L_law 227 = .ok (.iadd, 1) := by decide +kernel
theorem d_L_law_228 : decode b_L_law 228 = .ok (.iaload, 1) := by decide +kernel
theorem d_L_law_229 : decode b_L_law 229 = .ok (.aload_n 3, 1) := by decide +kernel
theorem d_L_law_230 : decode b_L_law 230 = .ok (.invokestatic 76, 3) := by decide +kernel
theorem d_L_law_233 : decode b_L_law 233 = .ok (.istore 5, 2) := by decide +kernel
theorem d_L_law_235 : decode b_L_law 235 = .ok (.aload_n 2, 1) := by decide +kernel
theorem d_L_law_236 : decode b_L_law 236 = .ok (.aload_n 0, 1) := by decide +kernel
theorem d_L_law_237 : decode b_L_law 237 = .ok (.iload 4, 2) := by decide +kernel
theorem d_L_law_239 : decode b_L_law 239 = .ok (.iconst 1, 1) := by decide +kernel
theorem d_L_law_240 : decode b_L_law 240 = .ok (.iadd, 1) := by decide +kernel
theorem d_L_law_241 : decode b_L_law 241 = .ok (.iaload, 1) := by decide +kernel
theorem d_L_law_242 : decode b_L_law 242 = .ok (.aload_n 0, 1) := by decide +kernel
theorem d_L_law_243 : decode b_L_law 243 = .ok (.iload 4, 2) := by decide +kernel
theorem d_L_law_245 : decode b_L_law 245 = .ok (.iconst 2, 1) := by decide +kernel
theorem d_L_law_246 : decode b_L_law 246 = .ok (.iadd, 1) := by decide +kernel
theorem d_L_law_247 : decode b_L_law 247 = .ok (.iaload, 1) := by decide +kernel
theorem d_L_law_248 : decode b_L_law 248 = .ok (.invokevirtual 78, 3) := by decide +kernel
theorem d_L_law_251 : decode b_L_law 251 = .ok (.istore 6, 2) := by decide +kernel
theorem d_L_law_253 : decode b_L_law 253 = .ok (.aload_n 2, 1) := by decide +kernel
theorem d_L_law_254 : decode b_L_law 254 = .ok (.invokevirtual 69, 3) := by decide +kernel
theorem d_L_law_257 : decode b_L_law 257 = .ok (.iload 5, 2) := by decide +kernel
theorem d_L_law_259 : decode b_L_law 259 = .ok (.if_icmp .eq 5, 3) := by decide +kernel
theorem d_L_law_262 : decode b_L_law 262 = .ok (.iconst 0, 1) := by decide +kernel
theorem d_L_law_263 : decode b_L_law 263 = .ok (.ireturn, 1) := by decide +kernel
theorem d_L_law_264 : decode b_L_law 264 = .ok (.iload 5, 2) := by decide +kernel
theorem d_L_law_266 : decode b_L_law 266 = .ok (.ifCond .ne 15, 3) := by decide +kernel
theorem d_L_law_269 : decode b_L_law 269 = .ok (.aload_n 3, 1) := by decide +kernel
theorem d_L_law_270 : decode b_L_law 270 = .ok (.iconst 0, 1) := by decide +kernel
theorem d_L_law_271 : decode b_L_law 271 = .ok (.laload, 1) := by decide +kernel
theorem d_L_law_272 : decode b_L_law 272 = .ok (.iload 6, 2) := by decide +kernel
theorem d_L_law_274 : decode b_L_law 274 = .ok (.i2l, 1) := by decide +kernel
theorem d_L_law_275 : decode b_L_law 275 = .ok (.lcmp, 1) := by decide +kernel
theorem d_L_law_276 : decode b_L_law 276 = .ok (.ifCond .eq 5, 3) := by decide +kernel
theorem d_L_law_279 : decode b_L_law 279 = .ok (.iconst 0, 1) := by decide +kernel
theorem d_L_law_280 : decode b_L_law 280 = .ok (.ireturn, 1) := by decide +kernel
theorem d_L_law_281 : decode b_L_law 281 = .ok (.goto 718, 3) := by decide +kernel
theorem d_L_law_284 : decode b_L_law 284 = .ok (.aload_n 1, 1) := by decide +kernel
theorem d_L_law_285 : decode b_L_law 285 = .ok (.aload_n 0, 1) := by decide +kernel
theorem d_L_law_286 : decode b_L_law 286 = .ok (.iload 4, 2) := by decide +kernel
theorem d_L_law_288 : decode b_L_law 288 = .ok (.iconst 1, 1) := by decide +kernel
theorem d_L_law_289 : decode b_L_law 289 = .ok (.iadd, 1) := by decide +kernel
theorem d_L_law_290 : decode b_L_law 290 = .ok (.iaload, 1) := by decide +kernel
theorem d_L_law_291 : decode b_L_law 291 = .ok (.aload_n 0, 1) := by decide +kernel
theorem d_L_law_292 : decode b_L_law 292 = .ok (.iload 4, 2) := by decide +kernel
theorem d_L_law_294 : decode b_L_law 294 = .ok (.iconst 2, 1) := by decide +kernel
theorem d_L_law_295 : decode b_L_law 295 = .ok (.iadd, 1) := by decide +kernel
theorem d_L_law_296 : decode b_L_law 296 = .ok (.iaload, 1) := by decide +kernel
theorem d_L_law_297 : decode b_L_law 297 = .ok (.aload_n 3, 1) := by decide +kernel
theorem d_L_law_298 : decode b_L_law 298 = .ok (.invokestatic 79, 3) := by decide +kernel
theorem d_L_law_301 : decode b_L_law 301 = .ok (.istore 5, 2) := by decide +kernel
theorem d_L_law_303 : decode b_L_law 303 = .ok (.aload_n 2, 1) := by decide +kernel
theorem d_L_law_304 : decode b_L_law 304 = .ok (.aload_n 0, 1) := by decide +kernel
theorem d_L_law_305 : decode b_L_law 305 = .ok (.iload 4, 2) := by decide +kernel
theorem d_L_law_307 : decode b_L_law 307 = .ok (.iconst 1, 1) := by decide +kernel
theorem d_L_law_308 : decode b_L_law 308 = .ok (.iadd, 1) := by decide +kernel
theorem d_L_law_309 : decode b_L_law 309 = .ok (.iaload, 1) := by decide +kernel
theorem d_L_law_310 : decode b_L_law 310 = .ok (.aload_n 0, 1) := by decide +kernel
theorem d_L_law_311 : decode b_L_law 311 = .ok (.iload 4, 2) := by decide +kernel
theorem d_L_law_313 : decode b_L_law 313 = .ok (.iconst 2, 1) := by decide +kernel
theorem d_L_law_314 : decode b_L_law 314 = .ok (.iadd, 1) := by decide +kernel
theorem d_L_law_315 : decode b_L_law 315 = .ok (.iaload, 1) := by decide +kernel
theorem d_L_law_316 : decode b_L_law 316 = .ok (.invokevirtual 81, 3) := by decide +kernel
theorem d_L_law_319 : decode b_L_law 319 = .ok (.istore 6, 2) := by decide +kernel
theorem d_L_law_321 : decode b_L_law 321 = .ok (.aload_n 2, 1) := by decide +kernel
theorem d_L_law_322 : decode b_L_law 322 = .ok (.invokevirtual 69, 3) := by decide +kernel
theorem d_L_law_325 : decode b_L_law 325 = .ok (.iload 5, 2) := by decide +kernel
theorem d_L_law_327 : decode b_L_law 327 = .ok (.if_icmp .eq 5, 3) := by decide +kernel
theorem d_L_law_330 : decode b_L_law 330 = .ok (.iconst 0, 1) := by decide +kernel
theorem d_L_law_331 : decode b_L_law 331 = .ok (.ireturn, 1) := by decide +kernel
theorem d_L_law_332 : decode b_L_law 332 = .ok (.iload 5, 2) := by decide +kernel
theorem d_L_law_334 : decode b_L_law 334 = .ok (.ifCond .ne 15, 3) := by decide +kernel
theorem d_L_law_337 : decode b_L_law 337 = .ok (.aload_n 3, 1) := by decide +kernel
theorem d_L_law_338 : decode b_L_law 338 = .ok (.iconst 0, 1) := by decide +kernel
theorem d_L_law_339 : decode b_L_law 339 = .ok (.laload, 1) := by decide +kernel
theorem d_L_law_340 : decode b_L_law 340 = .ok (.iload 6, 2) := by decide +kernel
theorem d_L_law_342 : decode b_L_law 342 = .ok (.i2l, 1) := by decide +kernel
theorem d_L_law_343 : decode b_L_law 343 = .ok (.lcmp, 1) := by decide +kernel
theorem d_L_law_344 : decode b_L_law 344 = .ok (.ifCond .eq 5, 3) := by decide +kernel
theorem d_L_law_347 : decode b_L_law 347 = .ok (.iconst 0, 1) := by decide +kernel
theorem d_L_law_348 : decode b_L_law 348 = .ok (.ireturn, 1) := by decide +kernel
theorem d_L_law_349 : decode b_L_law 349 = .ok (.goto 650, 3) := by decide +kernel
theorem d_L_law_352 : decode b_L_law 352 = .ok (.aload_n 1, 1) := by decide +kernel
theorem d_L_law_353 : decode b_L_law 353 = .ok (.aload_n 0, 1) := by decide +kernel
theorem d_L_law_354 : decode b_L_law 354 = .ok (.iload 4, 2) := by decide +kernel
theorem d_L_law_356 : decode b_L_law 356 = .ok (.iconst 1, 1) := by decide +kernel
theorem d_L_law_357 : decode b_L_law 357 = .ok (.iadd, 1) := by decide +kernel
theorem d_L_law_358 : decode b_L_law 358 = .ok (.iaload, 1) := by decide +kernel
theorem d_L_law_359 : decode b_L_law 359 = .ok (.aload_n 0, 1) := by decide +kernel
theorem d_L_law_360 : decode b_L_law 360 = .ok (.iload 4, 2) := by decide +kernel
theorem d_L_law_362 : decode b_L_law 362 = .ok (.iconst 2, 1) := by decide +kernel
theorem d_L_law_363 : decode b_L_law 363 = .ok (.iadd, 1) := by decide +kernel
theorem d_L_law_364 : decode b_L_law 364 = .ok (.iaload, 1) := by decide +kernel
theorem d_L_law_365 : decode b_L_law 365 = .ok (.aload_n 3, 1) := by decide +kernel
theorem d_L_law_366 : decode b_L_law 366 = .ok (.invokestatic 82, 3) := by decide +kernel
theorem d_L_law_369 : decode b_L_law 369 = .ok (.istore 5, 2) := by decide +kernel
theorem d_L_law_371 : decode b_L_law 371 = .ok (.aload_n 2, 1) := by decide +kernel
theorem d_L_law_372 : decode b_L_law 372 = .ok (.aload_n 0, 1) := by decide +kernel
theorem d_L_law_373 : decode b_L_law 373 = .ok (.iload 4, 2) := by decide +kernel
theorem d_L_law_375 : decode b_L_law 375 = .ok (.iconst 1, 1) := by decide +kernel
theorem d_L_law_376 : decode b_L_law 376 = .ok (.iadd, 1) := by decide +kernel
theorem d_L_law_377 : decode b_L_law 377 = .ok (.iaload, 1) := by decide +kernel
theorem d_L_law_378 : decode b_L_law 378 = .ok (.aload_n 0, 1) := by decide +kernel
theorem d_L_law_379 : decode b_L_law 379 = .ok (.iload 4, 2) := by decide +kernel
theorem d_L_law_381 : decode b_L_law 381 = .ok (.iconst 2, 1) := by decide +kernel
theorem d_L_law_382 : decode b_L_law 382 = .ok (.iadd, 1) := by decide +kernel
theorem d_L_law_383 : decode b_L_law 383 = .ok (.iaload, 1) := by decide +kernel
theorem d_L_law_384 : decode b_L_law 384 = .ok (.invokevirtual 84, 3) := by decide +kernel
theorem d_L_law_387 : decode b_L_law 387 = .ok (.istore 6, 2) := by decide +kernel
theorem d_L_law_389 : decode b_L_law 389 = .ok (.aload_n 2, 1) := by decide +kernel
theorem d_L_law_390 : decode b_L_law 390 = .ok (.invokevirtual 69, 3) := by decide +kernel
theorem d_L_law_393 : decode b_L_law 393 = .ok (.iload 5, 2) := by decide +kernel
theorem d_L_law_395 : decode b_L_law 395 = .ok (.if_icmp .eq 5, 3) := by decide +kernel
theorem d_L_law_398 : decode b_L_law 398 = .ok (.iconst 0, 1) := by decide +kernel
theorem d_L_law_399 : decode b_L_law 399 = .ok (.ireturn, 1) := by decide +kernel
theorem d_L_law_400 : decode b_L_law 400 = .ok (.iload 5, 2) := by decide +kernel
theorem d_L_law_402 : decode b_L_law 402 = .ok (.ifCond .ne 15, 3) := by decide +kernel
theorem d_L_law_405 : decode b_L_law 405 = .ok (.aload_n 3, 1) := by decide +kernel
theorem d_L_law_406 : decode b_L_law 406 = .ok (.iconst 0, 1) := by decide +kernel
theorem d_L_law_407 : decode b_L_law 407 = .ok (.laload, 1) := by decide +kernel
theorem d_L_law_408 : decode b_L_law 408 = .ok (.iload 6, 2) := by decide +kernel
theorem d_L_law_410 : decode b_L_law 410 = .ok (.i2l, 1) := by decide +kernel
theorem d_L_law_411 : decode b_L_law 411 = .ok (.lcmp, 1) := by decide +kernel
theorem d_L_law_412 : decode b_L_law 412 = .ok (.ifCond .eq 5, 3) := by decide +kernel
theorem d_L_law_415 : decode b_L_law 415 = .ok (.iconst 0, 1) := by decide +kernel
theorem d_L_law_416 : decode b_L_law 416 = .ok (.ireturn, 1) := by decide +kernel
theorem d_L_law_417 : decode b_L_law 417 = .ok (.goto 582, 3) := by decide +kernel
theorem d_L_law_420 : decode b_L_law 420 = .ok (.aload_n 1, 1) := by decide +kernel
theorem d_L_law_421 : decode b_L_law 421 = .ok (.aload_n 0, 1) := by decide +kernel
theorem d_L_law_422 : decode b_L_law 422 = .ok (.iload 4, 2) := by decide +kernel
theorem d_L_law_424 : decode b_L_law 424 = .ok (.iconst 1, 1) := by decide +kernel
theorem d_L_law_425 : decode b_L_law 425 = .ok (.iadd, 1) := by decide +kernel
theorem d_L_law_426 : decode b_L_law 426 = .ok (.iaload, 1) := by decide +kernel
theorem d_L_law_427 : decode b_L_law 427 = .ok (.aload_n 0, 1) := by decide +kernel
theorem d_L_law_428 : decode b_L_law 428 = .ok (.iload 4, 2) := by decide +kernel
theorem d_L_law_430 : decode b_L_law 430 = .ok (.iconst 2, 1) := by decide +kernel
theorem d_L_law_431 : decode b_L_law 431 = .ok (.iadd, 1) := by decide +kernel
theorem d_L_law_432 : decode b_L_law 432 = .ok (.iaload, 1) := by decide +kernel
theorem d_L_law_433 : decode b_L_law 433 = .ok (.aload_n 0, 1) := by decide +kernel
theorem d_L_law_434 : decode b_L_law 434 = .ok (.iload 4, 2) := by decide +kernel
theorem d_L_law_436 : decode b_L_law 436 = .ok (.iconst 3, 1) := by decide +kernel
theorem d_L_law_437 : decode b_L_law 437 = .ok (.iadd, 1) := by decide +kernel
theorem d_L_law_438 : decode b_L_law 438 = .ok (.iaload, 1) := by decide +kernel
theorem d_L_law_439 : decode b_L_law 439 = .ok (.aload_n 3, 1) := by decide +kernel
theorem d_L_law_440 : decode b_L_law 440 = .ok (.invokestatic 85, 3) := by decide +kernel
theorem d_L_law_443 : decode b_L_law 443 = .ok (.istore 5, 2) := by decide +kernel
theorem d_L_law_445 : decode b_L_law 445 = .ok (.aload_n 2, 1) := by decide +kernel
theorem d_L_law_446 : decode b_L_law 446 = .ok (.aload_n 0, 1) := by decide +kernel
theorem d_L_law_447 : decode b_L_law 447 = .ok (.iload 4, 2) := by decide +kernel
theorem d_L_law_449 : decode b_L_law 449 = .ok (.iconst 1, 1) := by decide +kernel
theorem d_L_law_450 : decode b_L_law 450 = .ok (.iadd, 1) := by decide +kernel
theorem d_L_law_451 : decode b_L_law 451 = .ok (.iaload, 1) := by decide +kernel
theorem d_L_law_452 : decode b_L_law 452 = .ok (.aload_n 0, 1) := by decide +kernel
theorem d_L_law_453 : decode b_L_law 453 = .ok (.iload 4, 2) := by decide +kernel
theorem d_L_law_455 : decode b_L_law 455 = .ok (.iconst 2, 1) := by decide +kernel
theorem d_L_law_456 : decode b_L_law 456 = .ok (.iadd, 1) := by decide +kernel
theorem d_L_law_457 : decode b_L_law 457 = .ok (.iaload, 1) := by decide +kernel
theorem d_L_law_458 : decode b_L_law 458 = .ok (.aload_n 0, 1) := by decide +kernel
theorem d_L_law_459 : decode b_L_law 459 = .ok (.iload 4, 2) := by decide +kernel
theorem d_L_law_461 : decode b_L_law 461 = .ok (.iconst 3, 1) := by decide +kernel
theorem d_L_law_462 : decode b_L_law 462 = .ok (.iadd, 1) := by decide +kernel
theorem d_L_law_463 : decode b_L_law 463 = .ok (.iaload, 1) := by decide +kernel
theorem d_L_law_464 : decode b_L_law 464 = .ok (.invokevirtual 88, 3) := by decide +kernel
theorem d_L_law_467 : decode b_L_law 467 = .ok (.istore 6, 2) := by decide +kernel
theorem d_L_law_469 : decode b_L_law 469 = .ok (.aload_n 2, 1) := by decide +kernel
theorem d_L_law_470 : decode b_L_law 470 = .ok (.invokevirtual 69, 3) := by decide +kernel
theorem d_L_law_473 : decode b_L_law 473 = .ok (.iload 5, 2) := by decide +kernel
theorem d_L_law_475 : decode b_L_law 475 = .ok (.if_icmp .eq 5, 3) := by decide +kernel
theorem d_L_law_478 : decode b_L_law 478 = .ok (.iconst 0, 1) := by decide +kernel
theorem d_L_law_479 : decode b_L_law 479 = .ok (.ireturn, 1) := by decide +kernel
theorem d_L_law_480 : decode b_L_law 480 = .ok (.iload 5, 2) := by decide +kernel
theorem d_L_law_482 : decode b_L_law 482 = .ok (.ifCond .ne 15, 3) := by decide +kernel
theorem d_L_law_485 : decode b_L_law 485 = .ok (.aload_n 3, 1) := by decide +kernel
theorem d_L_law_486 : decode b_L_law 486 = .ok (.iconst 0, 1) := by decide +kernel
theorem d_L_law_487 : decode b_L_law 487 = .ok (.laload, 1) := by decide +kernel
theorem d_L_law_488 : decode b_L_law 488 = .ok (.iload 6, 2) := by decide +kernel
theorem d_L_law_490 : decode b_L_law 490 = .ok (.i2l, 1) := by decide +kernel
theorem d_L_law_491 : decode b_L_law 491 = .ok (.lcmp, 1) := by decide +kernel
theorem d_L_law_492 : decode b_L_law 492 = .ok (.ifCond .eq 5, 3) := by decide +kernel
theorem d_L_law_495 : decode b_L_law 495 = .ok (.iconst 0, 1) := by decide +kernel
theorem d_L_law_496 : decode b_L_law 496 = .ok (.ireturn, 1) := by decide +kernel
theorem d_L_law_497 : decode b_L_law 497 = .ok (.goto 502, 3) := by decide +kernel
theorem d_L_law_500 : decode b_L_law 500 = .ok (.aload_n 1, 1) := by decide +kernel
theorem d_L_law_501 : decode b_L_law 501 = .ok (.aload_n 0, 1) := by decide +kernel
theorem d_L_law_502 : decode b_L_law 502 = .ok (.iload 4, 2) := by decide +kernel
theorem d_L_law_504 : decode b_L_law 504 = .ok (.iconst 1, 1) := by decide +kernel
theorem d_L_law_505 : decode b_L_law 505 = .ok (.iadd, 1) := by decide +kernel
theorem d_L_law_506 : decode b_L_law 506 = .ok (.iaload, 1) := by decide +kernel
theorem d_L_law_507 : decode b_L_law 507 = .ok (.aload_n 0, 1) := by decide +kernel
theorem d_L_law_508 : decode b_L_law 508 = .ok (.iload 4, 2) := by decide +kernel
theorem d_L_law_510 : decode b_L_law 510 = .ok (.iconst 2, 1) := by decide +kernel
theorem d_L_law_511 : decode b_L_law 511 = .ok (.iadd, 1) := by decide +kernel
theorem d_L_law_512 : decode b_L_law 512 = .ok (.iaload, 1) := by decide +kernel
theorem d_L_law_513 : decode b_L_law 513 = .ok (.aload_n 3, 1) := by decide +kernel
theorem d_L_law_514 : decode b_L_law 514 = .ok (.invokestatic 89, 3) := by decide +kernel
theorem d_L_law_517 : decode b_L_law 517 = .ok (.istore 5, 2) := by decide +kernel
theorem d_L_law_519 : decode b_L_law 519 = .ok (.aload_n 2, 1) := by decide +kernel
theorem d_L_law_520 : decode b_L_law 520 = .ok (.aload_n 0, 1) := by decide +kernel
theorem d_L_law_521 : decode b_L_law 521 = .ok (.iload 4, 2) := by decide +kernel
theorem d_L_law_523 : decode b_L_law 523 = .ok (.iconst 1, 1) := by decide +kernel
