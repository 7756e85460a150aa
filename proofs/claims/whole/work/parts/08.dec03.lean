theorem d_R_group_6 : decode b_R_group 6 = .ok (.iload_n 2, 1) := by decide +kernel
theorem d_R_group_7 : decode b_R_group 7 = .ok (.invokestatic 113, 3) := by decide +kernel
theorem d_R_group_10 : decode b_R_group 10 = .ok (.iconst 0, 1) := by decide +kernel
theorem d_R_group_11 : decode b_R_group 11 = .ok (.istore 4, 2) := by decide +kernel
theorem d_R_group_13 : decode b_R_group 13 = .ok (.iload 4, 2) := by decide +kernel
theorem d_R_group_15 : decode b_R_group 15 = .ok (.bipush 8, 2) := by decide +kernel
theorem d_R_group_17 : decode b_R_group 17 = .ok (.if_icmp .ge 35, 3) := by decide +kernel
theorem d_R_group_20 : decode b_R_group 20 = .ok (.aload_n 0, 1) := by decide +kernel
theorem d_R_group_21 : decode b_R_group 21 = .ok (.getfield 38, 3) := by decide +kernel
theorem d_R_group_24 : decode b_R_group 24 = .ok (.iload 4, 2) := by decide +kernel
theorem d_R_group_26 : decode b_R_group 26 = .ok (.iload 4, 2) := by decide +kernel
theorem d_R_group_28 : decode b_R_group 28 = .ok (.iload_n 1, 1) := by decide +kernel
theorem d_R_group_29 : decode b_R_group 29 = .ok (.if_icmp .ne 7, 3) := by decide +kernel
theorem d_R_group_32 : decode b_R_group 32 = .ok (.iconst 1, 1) := by decide +kernel
theorem d_R_group_33 : decode b_R_group 33 = .ok (.goto 4, 3) := by decide +kernel
theorem d_R_group_36 : decode b_R_group 36 = .ok (.iconst 0, 1) := by decide +kernel
theorem d_R_group_37 : decode b_R_group 37 = .ok (.bastore, 1) := by decide +kernel
theorem d_R_group_38 : decode b_R_group 38 = .ok (.aload_n 0, 1) := by decide +kernel
theorem d_R_group_39 : decode b_R_group 39 = .ok (.getfield 42, 3) := by decide +kernel
theorem d_R_group_42 : decode b_R_group 42 = .ok (.iload 4, 2) := by decide +kernel
theorem d_R_group_44 : decode b_R_group 44 = .ok (.iconst 0, 1) := by decide +kernel
theorem d_R_group_45 : decode b_R_group 45 = .ok (.bastore, 1) := by decide +kernel
theorem d_R_group_46 : decode b_R_group 46 = .ok (.iinc 4 1, 3) := by decide +kernel
theorem d_R_group_49 : decode b_R_group 49 = .ok (.goto (-36), 3) := by decide +kernel
theorem d_R_group_52 : decode b_R_group 52 = .ok (.iconst 0, 1) := by decide +kernel
theorem d_R_group_53 : decode b_R_group 53 = .ok (.istore 4, 2) := by decide +kernel
theorem d_R_group_55 : decode b_R_group 55 = .ok (.iload 4, 2) := by decide +kernel
theorem d_R_group_57 : decode b_R_group 57 = .ok (.aload_n 0, 1) := by decide +kernel
theorem d_R_group_58 : decode b_R_group 58 = .ok (.getfield 73, 3) := by decide +kernel
theorem d_R_group_61 : decode b_R_group 61 = .ok (.if_icmp .ge 40, 3) := by decide +kernel
theorem d_R_group_64 : decode b_R_group 64 = .ok (.aload_n 0, 1) := by decide +kernel
theorem d_R_group_65 : decode b_R_group 65 = .ok (.invokevirtual 191, 3) := by decide +kernel
theorem d_R_group_68 : decode b_R_group 68 = .ok (.istore 5, 2) := by decide +kernel
theorem d_R_group_70 : decode b_R_group 70 = .ok (.iload 5, 2) := by decide +kernel
theorem d_R_group_72 : decode b_R_group 72 = .ok (.iconst (-1), 1) := by decide +kernel
theorem d_R_group_73 : decode b_R_group 73 = .ok (.if_icmp .ne 6, 3) := by decide +kernel
theorem d_R_group_76 : decode b_R_group 76 = .ok (.goto 25, 3) := by decide +kernel
theorem d_R_group_79 : decode b_R_group 79 = .ok (.aload_n 0, 1) := by decide +kernel
theorem d_R_group_80 : decode b_R_group 80 = .ok (.getfield 42, 3) := by decide +kernel
theorem d_R_group_83 : decode b_R_group 83 = .ok (.iload 5, 2) := by decide +kernel
theorem d_R_group_85 : decode b_R_group 85 = .ok (.iconst 1, 1) := by decide +kernel
theorem d_R_group_86 : decode b_R_group 86 = .ok (.bastore, 1) := by decide +kernel
theorem d_R_group_87 : decode b_R_group 87 = .ok (.aload_n 0, 1) := by decide +kernel
theorem d_R_group_88 : decode b_R_group 88 = .ok (.iload 5, 2) := by decide +kernel
theorem d_R_group_90 : decode b_R_group 90 = .ok (.iload_n 2, 1) := by decide +kernel
theorem d_R_group_91 : decode b_R_group 91 = .ok (.iload_n 3, 1) := by decide +kernel
theorem d_R_group_92 : decode b_R_group 92 = .ok (.invokevirtual 194, 3) := by decide +kernel
theorem d_R_group_95 : decode b_R_group 95 = .ok (.iinc 4 1, 3) := by decide +kernel
theorem d_R_group_98 : decode b_R_group 98 = .ok (.goto (-43), 3) := by decide +kernel
theorem d_R_group_101 : decode b_R_group 101 = .ok (.aload_n 0, 1) := by decide +kernel
theorem d_R_group_102 : decode b_R_group 102 = .ok (.invokevirtual 198, 3) := by decide +kernel
theorem d_R_group_105 : decode b_R_group 105 = .ok (.ireturn, 1) := by decide +kernel
theorem d_R_count_0 : decode b_R_count 0 = .ok (.iload_n 1, 1) := by decide +kernel
theorem d_R_count_1 : decode b_R_count 1 = .ok (.tableswitch 54 0 3 #[31, 39, 44, 49], 31) := by decide +kernel
theorem d_R_count_32 : decode b_R_count 32 = .ok (.aload_n 0, 1) := by decide +kernel
theorem d_R_count_33 : decode b_R_count 33 = .ok (.getfield 12, 3) := by decide +kernel
theorem d_R_count_36 : decode b_R_count 36 = .ok (.getfield 56, 3) := by decide +kernel
theorem d_R_count_39 : decode b_R_count 39 = .ok (.ireturn, 1) := by decide +kernel
theorem d_R_count_40 : decode b_R_count 40 = .ok (.aload_n 0, 1) := by decide +kernel
theorem d_R_count_41 : decode b_R_count 41 = .ok (.getfield 73, 3) := by decide +kernel
theorem d_R_count_44 : decode b_R_count 44 = .ok (.ireturn, 1) := by decide +kernel
theorem d_R_count_45 : decode b_R_count 45 = .ok (.aload_n 0, 1) := by decide +kernel
theorem d_R_count_46 : decode b_R_count 46 = .ok (.getfield 116, 3) := by decide +kernel
theorem d_R_count_49 : decode b_R_count 49 = .ok (.ireturn, 1) := by decide +kernel
theorem d_R_count_50 : decode b_R_count 50 = .ok (.aload_n 0, 1) := by decide +kernel
theorem d_R_count_51 : decode b_R_count 51 = .ok (.getfield 119, 3) := by decide +kernel
theorem d_R_count_54 : decode b_R_count 54 = .ok (.ireturn, 1) := by decide +kernel
theorem d_R_count_55 : decode b_R_count 55 = .ok (.new 94, 3) := by decide +kernel
theorem d_R_count_58 : decode b_R_count 58 = .ok (.dup, 1) := by decide +kernel
theorem d_R_count_59 : decode b_R_count 59 = .ok (.ldc 146, 2) := by decide +kernel
theorem d_R_count_61 : decode b_R_count 61 = .ok (.invokespecial 98, 3) := by decide +kernel
theorem d_R_count_64 : decode b_R_count 64 = .ok (.athrow, 1) := by decide +kernel
theorem d_R_seriesAt_0 : decode b_R_seriesAt 0 = .ok (.iload_n 1, 1) := by decide +kernel
theorem d_R_seriesAt_1 : decode b_R_seriesAt 1 = .ok (.ifCond .lt 11, 3) := by decide +kernel
theorem d_R_seriesAt_4 : decode b_R_seriesAt 4 = .ok (.iload_n 1, 1) := by decide +kernel
theorem d_R_seriesAt_5 : decode b_R_seriesAt 5 = .ok (.aload_n 0, 1) := by decide +kernel
theorem d_R_seriesAt_6 : decode b_R_seriesAt 6 = .ok (.getfield 73, 3) := by decide +kernel
theorem d_R_seriesAt_9 : decode b_R_seriesAt 9 = .ok (.if_icmp .lt 13, 3) := by decide +kernel
theorem d_R_seriesAt_12 : decode b_R_seriesAt 12 = .ok (.new 94, 3) := by decide +kernel
theorem d_R_seriesAt_15 : decode b_R_seriesAt 15 = .ok (.dup, 1) := by decide +kernel
theorem d_R_seriesAt_16 : decode b_R_seriesAt 16 = .ok (.ldc 201, 2) := by decide +kernel
theorem d_R_seriesAt_18 : decode b_R_seriesAt 18 = .ok (.invokespecial 98, 3) := by decide +kernel
theorem d_R_seriesAt_21 : decode b_R_seriesAt 21 = .ok (.athrow, 1) := by decide +kernel
theorem d_R_seriesAt_22 : decode b_R_seriesAt 22 = .ok (.aload_n 0, 1) := by decide +kernel
theorem d_R_seriesAt_23 : decode b_R_seriesAt 23 = .ok (.getfield 18, 3) := by decide +kernel
theorem d_R_seriesAt_26 : decode b_R_seriesAt 26 = .ok (.iload_n 1, 1) := by decide +kernel
theorem d_R_seriesAt_27 : decode b_R_seriesAt 27 = .ok (.aaload, 1) := by decide +kernel
theorem d_R_seriesAt_28 : decode b_R_seriesAt 28 = .ok (.areturn, 1) := by decide +kernel
theorem d_R_overlapAt_0 : decode b_R_overlapAt 0 = .ok (.iload_n 1, 1) := by decide +kernel
theorem d_R_overlapAt_1 : decode b_R_overlapAt 1 = .ok (.ifCond .lt 11, 3) := by decide +kernel
theorem d_R_overlapAt_4 : decode b_R_overlapAt 4 = .ok (.iload_n 1, 1) := by decide +kernel
theorem d_R_overlapAt_5 : decode b_R_overlapAt 5 = .ok (.aload_n 0, 1) := by decide +kernel
theorem d_R_overlapAt_6 : decode b_R_overlapAt 6 = .ok (.getfield 116, 3) := by decide +kernel
theorem d_R_overlapAt_9 : decode b_R_overlapAt 9 = .ok (.if_icmp .lt 13, 3) := by decide +kernel
theorem d_R_overlapAt_12 : decode b_R_overlapAt 12 = .ok (.new 94, 3) := by decide +kernel
theorem d_R_overlapAt_15 : decode b_R_overlapAt 15 = .ok (.dup, 1) := by decide +kernel
theorem d_R_overlapAt_16 : decode b_R_overlapAt 16 = .ok (.ldc 203, 2) := by decide +kernel
theorem d_R_overlapAt_18 : decode b_R_overlapAt 18 = .ok (.invokespecial 98, 3) := by decide +kernel
theorem d_R_overlapAt_21 : decode b_R_overlapAt 21 = .ok (.athrow, 1) := by decide +kernel
theorem d_R_overlapAt_22 : decode b_R_overlapAt 22 = .ok (.aload_n 0, 1) := by decide +kernel
theorem d_R_overlapAt_23 : decode b_R_overlapAt 23 = .ok (.getfield 25, 3) := by decide +kernel
theorem d_R_overlapAt_26 : decode b_R_overlapAt 26 = .ok (.iload_n 1, 1) := by decide +kernel
theorem d_R_overlapAt_27 : decode b_R_overlapAt 27 = .ok (.aaload, 1) := by decide +kernel
theorem d_R_overlapAt_28 : decode b_R_overlapAt 28 = .ok (.areturn, 1) := by decide +kernel
theorem d_R_requireLeast_0 : decode b_R_requireLeast 0 = .ok (.iload_n 0, 1) := by decide +kernel
theorem d_R_requireLeast_1 : decode b_R_requireLeast 1 = .ok (.iconst 3, 1) := by decide +kernel
theorem d_R_requireLeast_2 : decode b_R_requireLeast 2 = .ok (.if_icmp .lt 9, 3) := by decide +kernel
theorem d_R_requireLeast_5 : decode b_R_requireLeast 5 = .ok (.iload_n 0, 1) := by decide +kernel
theorem d_R_requireLeast_6 : decode b_R_requireLeast 6 = .ok (.bipush 24, 2) := by decide +kernel
theorem d_R_requireLeast_8 : decode b_R_requireLeast 8 = .ok (.if_icmp .le 13, 3) := by decide +kernel
theorem d_R_requireLeast_11 : decode b_R_requireLeast 11 = .ok (.new 49, 3) := by decide +kernel
theorem d_R_requireLeast_14 : decode b_R_requireLeast 14 = .ok (.dup, 1) := by decide +kernel
theorem d_R_requireLeast_15 : decode b_R_requireLeast 15 = .ok (.ldc 205, 2) := by decide +kernel
theorem d_R_requireLeast_17 : decode b_R_requireLeast 17 = .ok (.invokespecial 53, 3) := by decide +kernel
theorem d_R_requireLeast_20 : decode b_R_requireLeast 20 = .ok (.athrow, 1) := by decide +kernel
theorem d_R_requireLeast_21 : decode b_R_requireLeast 21 = .ok (.return_, 1) := by decide +kernel
theorem d_R_requirePart_0 : decode b_R_requirePart 0 = .ok (.iload_n 0, 1) := by decide +kernel
theorem d_R_requirePart_1 : decode b_R_requirePart 1 = .ok (.ifCond .eq 18, 3) := by decide +kernel
theorem d_R_requirePart_4 : decode b_R_requirePart 4 = .ok (.iload_n 0, 1) := by decide +kernel
theorem d_R_requirePart_5 : decode b_R_requirePart 5 = .ok (.iconst 1, 1) := by decide +kernel
theorem d_R_requirePart_6 : decode b_R_requirePart 6 = .ok (.if_icmp .eq 13, 3) := by decide +kernel
theorem d_R_requirePart_9 : decode b_R_requirePart 9 = .ok (.new 94, 3) := by decide +kernel
theorem d_R_requirePart_12 : decode b_R_requirePart 12 = .ok (.dup, 1) := by decide +kernel
theorem d_R_requirePart_13 : decode b_R_requirePart 13 = .ok (.ldc 207, 2) := by decide +kernel
theorem d_R_requirePart_15 : decode b_R_requirePart 15 = .ok (.invokespecial 98, 3) := by decide +kernel
theorem d_R_requirePart_18 : decode b_R_requirePart 18 = .ok (.athrow, 1) := by decide +kernel
theorem d_R_requirePart_19 : decode b_R_requirePart 19 = .ok (.return_, 1) := by decide +kernel
theorem d_R_keepNext_0 : decode b_R_keepNext 0 = .ok (.aload_n 0, 1) := by decide +kernel
theorem d_R_keepNext_1 : decode b_R_keepNext 1 = .ok (.getfield 73, 3) := by decide +kernel
theorem d_R_keepNext_4 : decode b_R_keepNext 4 = .ok (.istore_n 1, 1) := by decide +kernel
theorem d_R_keepNext_5 : decode b_R_keepNext 5 = .ok (.aload_n 0, 1) := by decide +kernel
theorem d_R_keepNext_6 : decode b_R_keepNext 6 = .ok (.dup, 1) := by decide +kernel
theorem d_R_keepNext_7 : decode b_R_keepNext 7 = .ok (.getfield 73, 3) := by decide +kernel
theorem d_R_keepNext_10 : decode b_R_keepNext 10 = .ok (.iconst 1, 1) := by decide +kernel
theorem d_R_keepNext_11 : decode b_R_keepNext 11 = .ok (.iadd, 1) := by decide +kernel
theorem d_R_keepNext_12 : decode b_R_keepNext 12 = .ok (.putfield 73, 3) := by decide +kernel
theorem d_R_keepNext_15 : decode b_R_keepNext 15 = .ok (.iload_n 1, 1) := by decide +kernel
theorem d_R_keepNext_16 : decode b_R_keepNext 16 = .ok (.ireturn, 1) := by decide +kernel
theorem d_R_rankNewest_0 : decode b_R_rankNewest 0 = .ok (.aload_n 0, 1) := by decide +kernel
theorem d_R_rankNewest_1 : decode b_R_rankNewest 1 = .ok (.getfield 116, 3) := by decide +kernel
theorem d_R_rankNewest_4 : decode b_R_rankNewest 4 = .ok (.istore_n 1, 1) := by decide +kernel
theorem d_R_rankNewest_5 : decode b_R_rankNewest 5 = .ok (.aload_n 0, 1) := by decide +kernel
theorem d_R_rankNewest_6 : decode b_R_rankNewest 6 = .ok (.getfield 25, 3) := by decide +kernel
theorem d_R_rankNewest_9 : decode b_R_rankNewest 9 = .ok (.iload_n 1, 1) := by decide +kernel
theorem d_R_rankNewest_10 : decode b_R_rankNewest 10 = .ok (.aaload, 1) := by decide +kernel
theorem d_R_rankNewest_11 : decode b_R_rankNewest 11 = .ok (.astore_n 2, 1) := by decide +kernel
theorem d_R_rankNewest_12 : decode b_R_rankNewest 12 = .ok (.iload_n 1, 1) := by decide +kernel
theorem d_R_rankNewest_13 : decode b_R_rankNewest 13 = .ok (.ifCond .le 38, 3) := by decide +kernel
theorem d_R_rankNewest_16 : decode b_R_rankNewest 16 = .ok (.aload_n 2, 1) := by decide +kernel
theorem d_R_rankNewest_17 : decode b_R_rankNewest 17 = .ok (.aload_n 0, 1) := by decide +kernel
theorem d_R_rankNewest_18 : decode b_R_rankNewest 18 = .ok (.getfield 25, 3) := by decide +kernel
theorem d_R_rankNewest_21 : decode b_R_rankNewest 21 = .ok (.iload_n 1, 1) := by decide +kernel
theorem d_R_rankNewest_22 : decode b_R_rankNewest 22 = .ok (.iconst 1, 1) := by decide +kernel
theorem d_R_rankNewest_23 : decode b_R_rankNewest 23 = .ok (.isub, 1) := by decide +kernel
theorem d_R_rankNewest_24 : decode b_R_rankNewest 24 = .ok (.aaload, 1) := by decide +kernel
theorem d_R_rankNewest_25 : decode b_R_rankNewest 25 = .ok (.invokevirtual 209, 3) := by decide +kernel
theorem d_R_rankNewest_28 : decode b_R_rankNewest 28 = .ok (.ifCond .eq 23, 3) := by decide +kernel
theorem d_R_rankNewest_31 : decode b_R_rankNewest 31 = .ok (.aload_n 0, 1) := by decide +kernel
theorem d_R_rankNewest_32 : decode b_R_rankNewest 32 = .ok (.getfield 25, 3) := by decide +kernel
theorem d_R_rankNewest_35 : decode b_R_rankNewest 35 = .ok (.iload_n 1, 1) := by decide +kernel
theorem d_R_rankNewest_36 : decode b_R_rankNewest 36 = .ok (.aload_n 0, 1) := by decide +kernel
theorem d_R_rankNewest_37 : decode b_R_rankNewest 37 = .ok (.getfield 25, 3) := by decide +kernel
theorem d_R_rankNewest_40 : decode b_R_rankNewest 40 = .ok (.iload_n 1, 1) := by decide +kernel
theorem d_R_rankNewest_41 : decode b_R_rankNewest 41 = .ok (.iconst 1, 1) := by decide +kernel
theorem d_R_rankNewest_42 : decode b_R_rankNewest 42 = .ok (.isub, 1) := by decide +kernel
theorem d_R_rankNewest_43 : decode b_R_rankNewest 43 = .ok (.aaload, 1) := by decide +kernel
theorem d_R_rankNewest_44 : decode b_R_rankNewest 44 = .ok (.aastore, 1) := by decide +kernel
theorem d_R_rankNewest_45 : decode b_R_rankNewest 45 = .ok (.iinc 1 (-1), 3) := by decide +kernel
theorem d_R_rankNewest_48 : decode b_R_rankNewest 48 = .ok (.goto (-36), 3) := by decide +kernel
theorem d_R_rankNewest_51 : decode b_R_rankNewest 51 = .ok (.aload_n 0, 1) := by decide +kernel
theorem d_R_rankNewest_52 : decode b_R_rankNewest 52 = .ok (.getfield 25, 3) := by decide +kernel
theorem d_R_rankNewest_55 : decode b_R_rankNewest 55 = .ok (.iload_n 1, 1) := by decide +kernel
theorem d_R_rankNewest_56 : decode b_R_rankNewest 56 = .ok (.aload_n 2, 1) := by decide +kernel
theorem d_R_rankNewest_57 : decode b_R_rankNewest 57 = .ok (.aastore, 1) := by decide +kernel
theorem d_R_rankNewest_58 : decode b_R_rankNewest 58 = .ok (.aload_n 0, 1) := by decide +kernel
theorem d_R_rankNewest_59 : decode b_R_rankNewest 59 = .ok (.dup, 1) := by decide +kernel
theorem d_R_rankNewest_60 : decode b_R_rankNewest 60 = .ok (.getfield 116, 3) := by decide +kernel
theorem d_R_rankNewest_63 : decode b_R_rankNewest 63 = .ok (.iconst 1, 1) := by decide +kernel
theorem d_R_rankNewest_64 : decode b_R_rankNewest 64 = .ok (.iadd, 1) := by decide +kernel
theorem d_R_rankNewest_65 : decode b_R_rankNewest 65 = .ok (.putfield 116, 3) := by decide +kernel
theorem d_R_rankNewest_68 : decode b_R_rankNewest 68 = .ok (.return_, 1) := by decide +kernel
theorem d_R_memberNotAsked_0 : decode b_R_memberNotAsked 0 = .ok (.iconst 0, 1) := by decide +kernel
theorem d_R_memberNotAsked_1 : decode b_R_memberNotAsked 1 = .ok (.istore_n 1, 1) := by decide +kernel
theorem d_R_memberNotAsked_2 : decode b_R_memberNotAsked 2 = .ok (.iload_n 1, 1) := by decide +kernel
theorem d_R_memberNotAsked_3 : decode b_R_memberNotAsked 3 = .ok (.aload_n 0, 1) := by decide +kernel
theorem d_R_memberNotAsked_4 : decode b_R_memberNotAsked 4 = .ok (.getfield 73, 3) := by decide +kernel
theorem d_R_memberNotAsked_7 : decode b_R_memberNotAsked 7 = .ok (.if_icmp .ge 29, 3) := by decide +kernel
theorem d_R_memberNotAsked_10 : decode b_R_memberNotAsked 10 = .ok (.aload_n 0, 1) := by decide +kernel
theorem d_R_memberNotAsked_11 : decode b_R_memberNotAsked 11 = .ok (.getfield 38, 3) := by decide +kernel
theorem d_R_memberNotAsked_14 : decode b_R_memberNotAsked 14 = .ok (.iload_n 1, 1) := by decide +kernel
theorem d_R_memberNotAsked_15 : decode b_R_memberNotAsked 15 = .ok (.baload, 1) := by decide +kernel
theorem d_R_memberNotAsked_16 : decode b_R_memberNotAsked 16 = .ok (.ifCond .eq 14, 3) := by decide +kernel
theorem d_R_memberNotAsked_19 : decode b_R_memberNotAsked 19 = .ok (.aload_n 0, 1) := by decide +kernel
theorem d_R_memberNotAsked_20 : decode b_R_memberNotAsked 20 = .ok (.getfield 42, 3) := by decide +kernel
theorem d_R_memberNotAsked_23 : decode b_R_memberNotAsked 23 = .ok (.iload_n 1, 1) := by decide +kernel
theorem d_R_memberNotAsked_24 : decode b_R_memberNotAsked 24 = .ok (.baload, 1) := by decide +kernel
theorem d_R_memberNotAsked_25 : decode b_R_memberNotAsked 25 = .ok (.ifCond .ne 5, 3) := by decide +kernel
theorem d_R_memberNotAsked_28 : decode b_R_memberNotAsked 28 = .ok (.iload_n 1, 1) := by decide +kernel
theorem d_R_memberNotAsked_29 : decode b_R_memberNotAsked 29 = .ok (.ireturn, 1) := by decide +kernel
theorem d_R_memberNotAsked_30 : decode b_R_memberNotAsked 30 = .ok (.iinc 1 1, 3) := by decide +kernel
theorem d_R_memberNotAsked_33 : decode b_R_memberNotAsked 33 = .ok (.goto (-31), 3) := by decide +kernel
theorem d_R_memberNotAsked_36 : decode b_R_memberNotAsked 36 = .ok (.iconst (-1), 1) := by decide +kernel
theorem d_R_memberNotAsked_37 : decode b_R_memberNotAsked 37 = .ok (.ireturn, 1) := by decide +kernel
theorem d_R_addJoinedTo_0 : decode b_R_addJoinedTo 0 = .ok (.iconst 0, 1) := by decide +kernel
theorem d_R_addJoinedTo_1 : decode b_R_addJoinedTo 1 = .ok (.istore 4, 2) := by decide +kernel
theorem d_R_addJoinedTo_3 : decode b_R_addJoinedTo 3 = .ok (.iload 4, 2) := by decide +kernel
theorem d_R_addJoinedTo_5 : decode b_R_addJoinedTo 5 = .ok (.aload_n 0, 1) := by decide +kernel
theorem d_R_addJoinedTo_6 : decode b_R_addJoinedTo 6 = .ok (.getfield 73, 3) := by decide +kernel
theorem d_R_addJoinedTo_9 : decode b_R_addJoinedTo 9 = .ok (.if_icmp .ge 49, 3) := by decide +kernel
theorem d_R_addJoinedTo_12 : decode b_R_addJoinedTo 12 = .ok (.aload_n 0, 1) := by decide +kernel
theorem d_R_addJoinedTo_13 : decode b_R_addJoinedTo 13 = .ok (.getfield 38, 3) := by decide +kernel
theorem d_R_addJoinedTo_16 : decode b_R_addJoinedTo 16 = .ok (.iload 4, 2) := by decide +kernel
theorem d_R_addJoinedTo_18 : decode b_R_addJoinedTo 18 = .ok (.baload, 1) := by decide +kernel
theorem d_R_addJoinedTo_19 : decode b_R_addJoinedTo 19 = .ok (.ifCond .ne 33, 3) := by decide +kernel
theorem d_R_addJoinedTo_22 : decode b_R_addJoinedTo 22 = .ok (.aload_n 0, 1) := by decide +kernel
theorem d_R_addJoinedTo_23 : decode b_R_addJoinedTo 23 = .ok (.aload_n 0, 1) := by decide +kernel
theorem d_R_addJoinedTo_24 : decode b_R_addJoinedTo 24 = .ok (.getfield 18, 3) := by decide +kernel
theorem d_R_addJoinedTo_27 : decode b_R_addJoinedTo 27 = .ok (.iload_n 1, 1) := by decide +kernel
theorem d_R_addJoinedTo_28 : decode b_R_addJoinedTo 28 = .ok (.aaload, 1) := by decide +kernel
theorem d_R_addJoinedTo_29 : decode b_R_addJoinedTo 29 = .ok (.aload_n 0, 1) := by decide +kernel
theorem d_R_addJoinedTo_30 : decode b_R_addJoinedTo 30 = .ok (.getfield 18, 3) := by decide +kernel
theorem d_R_addJoinedTo_33 : decode b_R_addJoinedTo 33 = .ok (.iload 4, 2) := by decide +kernel
theorem d_R_addJoinedTo_35 : decode b_R_addJoinedTo 35 = .ok (.aaload, 1) := by decide +kernel
theorem d_R_addJoinedTo_36 : decode b_R_addJoinedTo 36 = .ok (.iload_n 2, 1) := by decide +kernel
theorem d_R_addJoinedTo_37 : decode b_R_addJoinedTo 37 = .ok (.iload_n 3, 1) := by decide +kernel
theorem d_R_addJoinedTo_38 : decode b_R_addJoinedTo 38 = .ok (.invokevirtual 213, 3) := by decide +kernel
theorem d_R_addJoinedTo_41 : decode b_R_addJoinedTo 41 = .ok (.ifCond .eq 11, 3) := by decide +kernel
theorem d_R_addJoinedTo_44 : decode b_R_addJoinedTo 44 = .ok (.aload_n 0, 1) := by decide +kernel
theorem d_R_addJoinedTo_45 : decode b_R_addJoinedTo 45 = .ok (.getfield 38, 3) := by decide +kernel
theorem d_R_addJoinedTo_48 : decode b_R_addJoinedTo 48 = .ok (.iload 4, 2) := by decide +kernel
theorem d_R_addJoinedTo_50 : decode b_R_addJoinedTo 50 = .ok (.iconst 1, 1) := by decide +kernel
theorem d_R_addJoinedTo_51 : decode b_R_addJoinedTo 51 = .ok (.bastore, 1) := by decide +kernel
theorem d_R_addJoinedTo_52 : decode b_R_addJoinedTo 52 = .ok (.iinc 4 1, 3) := by decide +kernel
theorem d_R_addJoinedTo_55 : decode b_R_addJoinedTo 55 = .ok (.goto (-52), 3) := by decide +kernel
theorem d_R_addJoinedTo_58 : decode b_R_addJoinedTo 58 = .ok (.return_, 1) := by decide +kernel
theorem d_R_areJoined_0 : decode b_R_areJoined 0 = .ok (.iconst 1, 1) := by decide +kernel
theorem d_R_areJoined_1 : decode b_R_areJoined 1 = .ok (.aload_n 2, 1) := by decide +kernel
theorem d_R_areJoined_2 : decode b_R_areJoined 2 = .ok (.getfield 90, 3) := by decide +kernel
theorem d_R_areJoined_5 : decode b_R_areJoined 5 = .ok (.isub, 1) := by decide +kernel
theorem d_R_areJoined_6 : decode b_R_areJoined 6 = .ok (.istore 5, 2) := by decide +kernel
theorem d_R_areJoined_8 : decode b_R_areJoined 8 = .ok (.iload 5, 2) := by decide +kernel
theorem d_R_areJoined_10 : decode b_R_areJoined 10 = .ok (.aload_n 1, 1) := by decide +kernel
theorem d_R_areJoined_11 : decode b_R_areJoined 11 = .ok (.getfield 90, 3) := by decide +kernel
theorem d_R_areJoined_14 : decode b_R_areJoined 14 = .ok (.if_icmp .ge 45, 3) := by decide +kernel
theorem d_R_areJoined_17 : decode b_R_areJoined 17 = .ok (.aload_n 0, 1) := by decide +kernel
theorem d_R_areJoined_18 : decode b_R_areJoined 18 = .ok (.getfield 34, 3) := by decide +kernel
theorem d_R_areJoined_21 : decode b_R_areJoined 21 = .ok (.aload_n 1, 1) := by decide +kernel
theorem d_R_areJoined_22 : decode b_R_areJoined 22 = .ok (.aload_n 2, 1) := by decide +kernel
theorem d_R_areJoined_23 : decode b_R_areJoined 23 = .ok (.iload 5, 2) := by decide +kernel
theorem d_R_areJoined_25 : decode b_R_areJoined 25 = .ok (.invokevirtual 122, 3) := by decide +kernel
theorem d_R_areJoined_28 : decode b_R_areJoined 28 = .ok (.aload_n 0, 1) := by decide +kernel
theorem d_R_areJoined_29 : decode b_R_areJoined 29 = .ok (.getfield 34, 3) := by decide +kernel
theorem d_R_areJoined_32 : decode b_R_areJoined 32 = .ok (.getfield 126, 3) := by decide +kernel
theorem d_R_areJoined_35 : decode b_R_areJoined 35 = .ok (.iload_n 3, 1) := by decide +kernel
theorem d_R_areJoined_36 : decode b_R_areJoined 36 = .ok (.if_icmp .lt 17, 3) := by decide +kernel
theorem d_R_areJoined_39 : decode b_R_areJoined 39 = .ok (.aload_n 0, 1) := by decide +kernel
theorem d_R_areJoined_40 : decode b_R_areJoined 40 = .ok (.getfield 34, 3) := by decide +kernel
theorem d_R_areJoined_43 : decode b_R_areJoined 43 = .ok (.getfield 143, 3) := by decide +kernel
theorem d_R_areJoined_46 : decode b_R_areJoined 46 = .ok (.iload 4, 2) := by decide +kernel
theorem d_R_areJoined_48 : decode b_R_areJoined 48 = .ok (.if_icmp .lt 5, 3) := by decide +kernel
theorem d_R_areJoined_51 : decode b_R_areJoined 51 = .ok (.iconst 1, 1) := by decide +kernel
theorem d_R_areJoined_52 : decode b_R_areJoined 52 = .ok (.ireturn, 1) := by decide +kernel
theorem d_R_areJoined_53 : decode b_R_areJoined 53 = .ok (.iinc 5 1, 3) := by decide +kernel
theorem d_R_areJoined_56 : decode b_R_areJoined 56 = .ok (.goto (-48), 3) := by decide +kernel
theorem d_R_areJoined_59 : decode b_R_areJoined 59 = .ok (.iconst 0, 1) := by decide +kernel
theorem d_R_areJoined_60 : decode b_R_areJoined 60 = .ok (.ireturn, 1) := by decide +kernel
theorem d_R_leastMember_0 : decode b_R_leastMember 0 = .ok (.iconst 0, 1) := by decide +kernel
theorem d_R_leastMember_1 : decode b_R_leastMember 1 = .ok (.istore_n 1, 1) := by decide +kernel
theorem d_R_leastMember_2 : decode b_R_leastMember 2 = .ok (.iload_n 1, 1) := by decide +kernel
theorem d_R_leastMember_3 : decode b_R_leastMember 3 = .ok (.aload_n 0, 1) := by decide +kernel
theorem d_R_leastMember_4 : decode b_R_leastMember 4 = .ok (.getfield 73, 3) := by decide +kernel
theorem d_R_leastMember_7 : decode b_R_leastMember 7 = .ok (.if_icmp .ge 20, 3) := by decide +kernel
theorem d_R_leastMember_10 : decode b_R_leastMember 10 = .ok (.aload_n 0, 1) := by decide +kernel
theorem d_R_leastMember_11 : decode b_R_leastMember 11 = .ok (.getfield 38, 3) := by decide +kernel
theorem d_R_leastMember_14 : decode b_R_leastMember 14 = .ok (.iload_n 1, 1) := by decide +kernel
theorem d_R_leastMember_15 : decode b_R_leastMember 15 = .ok (.baload, 1) := by decide +kernel
theorem d_R_leastMember_16 : decode b_R_leastMember 16 = .ok (.ifCond .eq 5, 3) := by decide +kernel
theorem d_R_leastMember_19 : decode b_R_leastMember 19 = .ok (.iload_n 1, 1) := by decide +kernel
theorem d_R_leastMember_20 : decode b_R_leastMember 20 = .ok (.ireturn, 1) := by decide +kernel
theorem d_R_leastMember_21 : decode b_R_leastMember 21 = .ok (.iinc 1 1, 3) := by decide +kernel
theorem d_R_leastMember_24 : decode b_R_leastMember 24 = .ok (.goto (-22), 3) := by decide +kernel
theorem d_R_leastMember_27 : decode b_R_leastMember 27 = .ok (.iconst (-1), 1) := by decide +kernel
theorem d_R_leastMember_28 : decode b_R_leastMember 28 = .ok (.ireturn, 1) := by decide +kernel
theorem d_R_mean_0 : decode b_R_mean 0 = .ok (.iload_n 0, 1) := by decide +kernel
theorem d_R_mean_1 : decode b_R_mean 1 = .ok (.iconst (-1), 1) := by decide +kernel
theorem d_R_mean_2 : decode b_R_mean 2 = .ok (.if_icmp .ne 5, 3) := by decide +kernel
theorem d_R_mean_5 : decode b_R_mean 5 = .ok (.iload_n 1, 1) := by decide +kernel
theorem d_R_mean_6 : decode b_R_mean 6 = .ok (.ireturn, 1) := by decide +kernel
theorem d_R_mean_7 : decode b_R_mean 7 = .ok (.iload_n 1, 1) := by decide +kernel
theorem d_R_mean_8 : decode b_R_mean 8 = .ok (.iconst (-1), 1) := by decide +kernel
theorem d_R_mean_9 : decode b_R_mean 9 = .ok (.if_icmp .ne 5, 3) := by decide +kernel
theorem d_R_mean_12 : decode b_R_mean 12 = .ok (.iload_n 0, 1) := by decide +kernel
theorem d_R_mean_13 : decode b_R_mean 13 = .ok (.ireturn, 1) := by decide +kernel
theorem d_R_mean_14 : decode b_R_mean 14 = .ok (.iload_n 0, 1) := by decide +kernel
theorem d_R_mean_15 : decode b_R_mean 15 = .ok (.iload_n 1, 1) := by decide +kernel
theorem d_R_mean_16 : decode b_R_mean 16 = .ok (.iadd, 1) := by decide +kernel
theorem d_R_mean_17 : decode b_R_mean 17 = .ok (.iconst 1, 1) := by decide +kernel
theorem d_R_mean_18 : decode b_R_mean 18 = .ok (.iadd, 1) := by decide +kernel
theorem d_R_mean_19 : decode b_R_mean 19 = .ok (.iconst 2, 1) := by decide +kernel
theorem d_R_mean_20 : decode b_R_mean 20 = .ok (.idiv, 1) := by decide +kernel
theorem d_R_mean_21 : decode b_R_mean 21 = .ok (.ireturn, 1) := by decide +kernel
theorem d_R_waysToTake_0 : decode b_R_waysToTake 0 = .ok (.lconst 0, 1) := by decide +kernel
theorem d_R_waysToTake_1 : decode b_R_waysToTake 1 = .ok (.lstore_n 2, 1) := by decide +kernel
theorem d_R_waysToTake_2 : decode b_R_waysToTake 2 = .ok (.lconst 1, 1) := by decide +kernel
theorem d_R_waysToTake_3 : decode b_R_waysToTake 3 = .ok (.lstore 4, 2) := by decide +kernel
theorem d_R_waysToTake_5 : decode b_R_waysToTake 5 = .ok (.iconst 0, 1) := by decide +kernel
theorem d_R_waysToTake_6 : decode b_R_waysToTake 6 = .ok (.istore 6, 2) := by decide +kernel
theorem d_R_waysToTake_8 : decode b_R_waysToTake 8 = .ok (.iload 6, 2) := by decide +kernel
theorem d_R_waysToTake_10 : decode b_R_waysToTake 10 = .ok (.iload_n 1, 1) := by decide +kernel
theorem d_R_waysToTake_11 : decode b_R_waysToTake 11 = .ok (.if_icmp .gt 36, 3) := by decide +kernel
theorem d_R_waysToTake_14 : decode b_R_waysToTake 14 = .ok (.iload 6, 2) := by decide +kernel
theorem d_R_waysToTake_16 : decode b_R_waysToTake 16 = .ok (.iload_n 0, 1) := by decide +kernel
theorem d_R_waysToTake_17 : decode b_R_waysToTake 17 = .ok (.if_icmp .lt 8, 3) := by decide +kernel
theorem d_R_waysToTake_20 : decode b_R_waysToTake 20 = .ok (.lload_n 2, 1) := by decide +kernel
theorem d_R_waysToTake_21 : decode b_R_waysToTake 21 = .ok (.lload 4, 2) := by decide +kernel
theorem d_R_waysToTake_23 : decode b_R_waysToTake 23 = .ok (.ladd, 1) := by decide +kernel
theorem d_R_waysToTake_24 : decode b_R_waysToTake 24 = .ok (.lstore_n 2, 1) := by decide +kernel
theorem d_R_waysToTake_25 : decode b_R_waysToTake 25 = .ok (.lload 4, 2) := by decide +kernel
theorem d_R_waysToTake_27 : decode b_R_waysToTake 27 = .ok (.iload_n 1, 1) := by decide +kernel
theorem d_R_waysToTake_28 : decode b_R_waysToTake 28 = .ok (.iload 6, 2) := by decide +kernel
theorem d_R_waysToTake_30 : decode b_R_waysToTake 30 = .ok (.isub, 1) := by decide +kernel
theorem d_R_waysToTake_31 : decode b_R_waysToTake 31 = .ok (.i2l, 1) := by decide +kernel
theorem d_R_waysToTake_32 : decode b_R_waysToTake 32 = .ok (.lmul, 1) := by decide +kernel
theorem d_R_waysToTake_33 : decode b_R_waysToTake 33 = .ok (.iload 6, 2) := by decide +kernel
theorem d_R_waysToTake_35 : decode b_R_waysToTake 35 = .ok (.iconst 1, 1) := by decide +kernel
theorem d_R_waysToTake_36 : decode b_R_waysToTake 36 = .ok (.iadd, 1) := by decide +kernel
theorem d_R_waysToTake_37 : decode b_R_waysToTake 37 = .ok (.i2l, 1) := by decide +kernel
theorem d_R_waysToTake_38 : decode b_R_waysToTake 38 = .ok (.ldiv, 1) := by decide +kernel
theorem d_R_waysToTake_39 : decode b_R_waysToTake 39 = .ok (.lstore 4, 2) := by decide +kernel
theorem d_R_waysToTake_41 : decode b_R_waysToTake 41 = .ok (.iinc 6 1, 3) := by decide +kernel
theorem d_R_waysToTake_44 : decode b_R_waysToTake 44 = .ok (.goto (-36), 3) := by decide +kernel
theorem d_R_waysToTake_47 : decode b_R_waysToTake 47 = .ok (.lload_n 2, 1) := by decide +kernel
theorem d_R_waysToTake_48 : decode b_R_waysToTake 48 = .ok (.lreturn, 1) := by decide +kernel
theorem d_R_lessened_0 : decode b_R_lessened 0 = .ok (.lload_n 0, 1) := by decide +kernel
theorem d_R_lessened_1 : decode b_R_lessened 1 = .ok (.lload_n 2, 1) := by decide +kernel
theorem d_R_lessened_2 : decode b_R_lessened 2 = .ok (.invokestatic 217, 3) := by decide +kernel
theorem d_R_lessened_5 : decode b_R_lessened 5 = .ok (.lstore 5, 2) := by decide +kernel
theorem d_R_lessened_7 : decode b_R_lessened 7 = .ok (.iload 4, 2) := by decide +kernel
theorem d_R_lessened_9 : decode b_R_lessened 9 = .ok (.ifCond .ne 7, 3) := by decide +kernel
theorem d_R_lessened_12 : decode b_R_lessened 12 = .ok (.lload_n 0, 1) := by decide +kernel
theorem d_R_lessened_13 : decode b_R_lessened 13 = .ok (.goto 4, 3) := by decide +kernel
theorem d_R_lessened_16 : decode b_R_lessened 16 = .ok (.lload_n 2, 1) := by decide +kernel
theorem d_R_lessened_17 : decode b_R_lessened 17 = .ok (.lload 5, 2) := by decide +kernel
theorem d_R_lessened_19 : decode b_R_lessened 19 = .ok (.ldiv, 1) := by decide +kernel
theorem d_R_lessened_20 : decode b_R_lessened 20 = .ok (.lreturn, 1) := by decide +kernel
theorem d_R_greatestDivisor_0 : decode b_R_greatestDivisor 0 = .ok (.lload_n 0, 1) := by decide +kernel
theorem d_R_greatestDivisor_1 : decode b_R_greatestDivisor 1 = .ok (.lstore 4, 2) := by decide +kernel
theorem d_R_greatestDivisor_3 : decode b_R_greatestDivisor 3 = .ok (.lload_n 2, 1) := by decide +kernel
theorem d_R_greatestDivisor_4 : decode b_R_greatestDivisor 4 = .ok (.lstore 6, 2) := by decide +kernel
theorem d_R_greatestDivisor_6 : decode b_R_greatestDivisor 6 = .ok (.iconst 0, 1) := by decide +kernel
theorem d_R_greatestDivisor_7 : decode b_R_greatestDivisor 7 = .ok (.istore 8, 2) := by decide +kernel
theorem d_R_greatestDivisor_9 : decode b_R_greatestDivisor 9 = .ok (.iload 8, 2) := by decide +kernel
theorem d_R_greatestDivisor_11 : decode b_R_greatestDivisor 11 = .ok (.sipush 200, 3) := by decide +kernel
theorem d_R_greatestDivisor_14 : decode b_R_greatestDivisor 14 = .ok (.if_icmp .ge 31, 3) := by decide +kernel
theorem d_R_greatestDivisor_17 : decode b_R_greatestDivisor 17 = .ok (.lload 6, 2) := by decide +kernel
theorem d_R_greatestDivisor_19 : decode b_R_greatestDivisor 19 = .ok (.lconst 0, 1) := by decide +kernel
theorem d_R_greatestDivisor_20 : decode b_R_greatestDivisor 20 = .ok (.lcmp, 1) := by decide +kernel
theorem d_R_greatestDivisor_21 : decode b_R_greatestDivisor 21 = .ok (.ifCond .eq 24, 3) := by decide +kernel
theorem d_R_greatestDivisor_24 : decode b_R_greatestDivisor 24 = .ok (.lload 4, 2) := by decide +kernel
theorem d_R_greatestDivisor_26 : decode b_R_greatestDivisor 26 = .ok (.lload 6, 2) := by decide +kernel
theorem d_R_greatestDivisor_28 : decode b_R_greatestDivisor 28 = .ok (.lrem, 1) := by decide +kernel
theorem d_R_greatestDivisor_29 : decode b_R_greatestDivisor 29 = .ok (.lstore 9, 2) := by decide +kernel
theorem d_R_greatestDivisor_31 : decode b_R_greatestDivisor 31 = .ok (.lload 6, 2) := by decide +kernel
theorem d_R_greatestDivisor_33 : decode b_R_greatestDivisor 33 = .ok (.lstore 4, 2) := by decide +kernel
theorem d_R_greatestDivisor_35 : decode b_R_greatestDivisor 35 = .ok (.lload 9, 2) := by decide +kernel
theorem d_R_greatestDivisor_37 : decode b_R_greatestDivisor 37 = .ok (.lstore 6, 2) := by decide +kernel
theorem d_R_greatestDivisor_39 : decode b_R_greatestDivisor 39 = .ok (.iinc 8 1, 3) := by decide +kernel
theorem d_R_greatestDivisor_42 : decode b_R_greatestDivisor 42 = .ok (.goto (-33), 3) := by decide +kernel
theorem d_R_greatestDivisor_45 : decode b_R_greatestDivisor 45 = .ok (.lload 4, 2) := by decide +kernel
theorem d_R_greatestDivisor_47 : decode b_R_greatestDivisor 47 = .ok (.lconst 0, 1) := by decide +kernel
theorem d_R_greatestDivisor_48 : decode b_R_greatestDivisor 48 = .ok (.lcmp, 1) := by decide +kernel
theorem d_R_greatestDivisor_49 : decode b_R_greatestDivisor 49 = .ok (.ifCond .ne 7, 3) := by decide +kernel
theorem d_R_greatestDivisor_52 : decode b_R_greatestDivisor 52 = .ok (.lconst 1, 1) := by decide +kernel
theorem d_R_greatestDivisor_53 : decode b_R_greatestDivisor 53 = .ok (.goto 5, 3) := by decide +kernel
theorem d_R_greatestDivisor_56 : decode b_R_greatestDivisor 56 = .ok (.lload 4, 2) := by decide +kernel
theorem d_R_greatestDivisor_58 : decode b_R_greatestDivisor 58 = .ok (.lreturn, 1) := by decide +kernel
theorem d_O_init_0 : decode b_O_init 0 = .ok (.aload_n 0, 1) := by decide +kernel
theorem d_O_init_1 : decode b_O_init 1 = .ok (.invokespecial 3, 3) := by decide +kernel
theorem d_O_init_4 : decode b_O_init 4 = .ok (.return_, 1) := by decide +kernel
theorem d_O_lay_0 : decode b_O_lay 0 = .ok (.iconst 0, 1) := by decide +kernel
theorem d_O_lay_1 : decode b_O_lay 1 = .ok (.istore 4, 2) := by decide +kernel
theorem d_O_lay_3 : decode b_O_lay 3 = .ok (.lconst 0, 1) := by decide +kernel
theorem d_O_lay_4 : decode b_O_lay 4 = .ok (.lstore 5, 2) := by decide +kernel
theorem d_O_lay_6 : decode b_O_lay 6 = .ok (.lconst 0, 1) := by decide +kernel
theorem d_O_lay_7 : decode b_O_lay 7 = .ok (.lstore 7, 2) := by decide +kernel
theorem d_O_lay_9 : decode b_O_lay 9 = .ok (.lconst 0, 1) := by decide +kernel
theorem d_O_lay_10 : decode b_O_lay 10 = .ok (.lstore 9, 2) := by decide +kernel
theorem d_O_lay_12 : decode b_O_lay 12 = .ok (.lconst 0, 1) := by decide +kernel
theorem d_O_lay_13 : decode b_O_lay 13 = .ok (.lstore 11, 2) := by decide +kernel
theorem d_O_lay_15 : decode b_O_lay 15 = .ok (.lconst 0, 1) := by decide +kernel
theorem d_O_lay_16 : decode b_O_lay 16 = .ok (.lstore 13, 2) := by decide +kernel
theorem d_O_lay_18 : decode b_O_lay 18 = .ok (.aload_n 1, 1) := by decide +kernel
theorem d_O_lay_19 : decode b_O_lay 19 = .ok (.getfield 9, 3) := by decide +kernel
theorem d_O_lay_22 : decode b_O_lay 22 = .ok (.aload_n 2, 1) := by decide +kernel
theorem d_O_lay_23 : decode b_O_lay 23 = .ok (.getfield 9, 3) := by decide +kernel
theorem d_O_lay_26 : decode b_O_lay 26 = .ok (.iload_n 3, 1) := by decide +kernel
theorem d_O_lay_27 : decode b_O_lay 27 = .ok (.iadd, 1) := by decide +kernel
theorem d_O_lay_28 : decode b_O_lay 28 = .ok (.invokestatic 15, 3) := by decide +kernel
theorem d_O_lay_31 : decode b_O_lay 31 = .ok (.istore 15, 2) := by decide +kernel
theorem d_O_lay_33 : decode b_O_lay 33 = .ok (.iconst 0, 1) := by decide +kernel
theorem d_O_lay_34 : decode b_O_lay 34 = .ok (.iload_n 3, 1) := by decide +kernel
theorem d_O_lay_35 : decode b_O_lay 35 = .ok (.invokestatic 21, 3) := by decide +kernel
theorem d_O_lay_38 : decode b_O_lay 38 = .ok (.istore 16, 2) := by decide +kernel
theorem d_O_lay_40 : decode b_O_lay 40 = .ok (.iload 16, 2) := by decide +kernel
theorem d_O_lay_42 : decode b_O_lay 42 = .ok (.iload 15, 2) := by decide +kernel
theorem d_O_lay_44 : decode b_O_lay 44 = .ok (.if_icmp .ge 91, 3) := by decide +kernel
theorem d_O_lay_47 : decode b_O_lay 47 = .ok (.aload_n 1, 1) := by decide +kernel
theorem d_O_lay_48 : decode b_O_lay 48 = .ok (.iload 16, 2) := by decide +kernel
theorem d_O_lay_50 : decode b_O_lay 50 = .ok (.invokevirtual 24, 3) := by decide +kernel
theorem d_O_lay_53 : decode b_O_lay 53 = .ok (.istore 17, 2) := by decide +kernel
theorem d_O_lay_55 : decode b_O_lay 55 = .ok (.aload_n 2, 1) := by decide +kernel
theorem d_O_lay_56 : decode b_O_lay 56 = .ok (.iload 16, 2) := by decide +kernel
theorem d_O_lay_58 : decode b_O_lay 58 = .ok (.iload_n 3, 1) := by decide +kernel
theorem d_O_lay_59 : decode b_O_lay 59 = .ok (.isub, 1) := by decide +kernel
theorem d_O_lay_60 : decode b_O_lay 60 = .ok (.invokevirtual 24, 3) := by decide +kernel
theorem d_O_lay_63 : decode b_O_lay 63 = .ok (.istore 18, 2) := by decide +kernel
theorem d_O_lay_65 : decode b_O_lay 65 = .ok (.iload 17, 2) := by decide +kernel
theorem d_O_lay_67 : decode b_O_lay 67 = .ok (.iconst (-1), 1) := by decide +kernel
theorem d_O_lay_68 : decode b_O_lay 68 = .ok (.if_icmp .eq 61, 3) := by decide +kernel
theorem d_O_lay_71 : decode b_O_lay 71 = .ok (.iload 18, 2) := by decide +kernel
theorem d_O_lay_73 : decode b_O_lay 73 = .ok (.iconst (-1), 1) := by decide +kernel
theorem d_O_lay_74 : decode b_O_lay 74 = .ok (.if_icmp .eq 55, 3) := by decide +kernel
theorem d_O_lay_77 : decode b_O_lay 77 = .ok (.iinc 4 1, 3) := by decide +kernel
theorem d_O_lay_80 : decode b_O_lay 80 = .ok (.lload 5, 2) := by decide +kernel
theorem d_O_lay_82 : decode b_O_lay 82 = .ok (.iload 17, 2) := by decide +kernel
theorem d_O_lay_84 : decode b_O_lay 84 = .ok (.i2l, 1) := by decide +kernel
theorem d_O_lay_85 : decode b_O_lay 85 = .ok (.ladd, 1) := by decide +kernel
theorem d_O_lay_86 : decode b_O_lay 86 = .ok (.lstore 5, 2) := by decide +kernel
theorem d_O_lay_88 : decode b_O_lay 88 = .ok (.lload 7, 2) := by decide +kernel
theorem d_O_lay_90 : decode b_O_lay 90 = .ok (.iload 18, 2) := by decide +kernel
theorem d_O_lay_92 : decode b_O_lay 92 = .ok (.i2l, 1) := by decide +kernel
theorem d_O_lay_93 : decode b_O_lay 93 = .ok (.ladd, 1) := by decide +kernel
theorem d_O_lay_94 : decode b_O_lay 94 = .ok (.lstore 7, 2) := by decide +kernel
theorem d_O_lay_96 : decode b_O_lay 96 = .ok (.lload 9, 2) := by decide +kernel
theorem d_O_lay_98 : decode b_O_lay 98 = .ok (.iload 17, 2) := by decide +kernel
theorem d_O_lay_100 : decode b_O_lay 100 = .ok (.iload 17, 2) := by decide +kernel
theorem d_O_lay_102 : decode b_O_lay 102 = .ok (.imul, 1) := by decide +kernel
theorem d_O_lay_103 : decode b_O_lay 103 = .ok (.i2l, 1) := by decide +kernel
theorem d_O_lay_104 : decode b_O_lay 104 = .ok (.ladd, 1) := by decide +kernel
theorem d_O_lay_105 : decode b_O_lay 105 = .ok (.lstore 9, 2) := by decide +kernel
theorem d_O_lay_107 : decode b_O_lay 107 = .ok (.lload 11, 2) := by decide +kernel
theorem d_O_lay_109 : decode b_O_lay 109 = .ok (.iload 18, 2) := by decide +kernel
theorem d_O_lay_111 : decode b_O_lay 111 = .ok (.iload 18, 2) := by decide +kernel
theorem d_O_lay_113 : decode b_O_lay 113 = .ok (.imul, 1) := by decide +kernel
theorem d_O_lay_114 : decode b_O_lay 114 = .ok (.i2l, 1) := by decide +kernel
theorem d_O_lay_115 : decode b_O_lay 115 = .ok (.ladd, 1) := by decide +kernel
theorem d_O_lay_116 : decode b_O_lay 116 = .ok (.lstore 11, 2) := by decide +kernel
theorem d_O_lay_118 : decode b_O_lay 118 = .ok (.lload 13, 2) := by decide +kernel
theorem d_O_lay_120 : decode b_O_lay 120 = .ok (.iload 17, 2) := by decide +kernel
theorem d_O_lay_122 : decode b_O_lay 122 = .ok (.iload 18, 2) := by decide +kernel
theorem d_O_lay_124 : decode b_O_lay 124 = .ok (.imul, 1) := by decide +kernel
theorem d_O_lay_125 : decode b_O_lay 125 = .ok (.i2l, 1) := by decide +kernel
theorem d_O_lay_126 : decode b_O_lay 126 = .ok (.ladd, 1) := by decide +kernel
theorem d_O_lay_127 : decode b_O_lay 127 = .ok (.lstore 13, 2) := by decide +kernel
theorem d_O_lay_129 : decode b_O_lay 129 = .ok (.iinc 16 1, 3) := by decide +kernel
theorem d_O_lay_132 : decode b_O_lay 132 = .ok (.goto (-92), 3) := by decide +kernel
theorem d_O_lay_135 : decode b_O_lay 135 = .ok (.aload_n 0, 1) := by decide +kernel
theorem d_O_lay_136 : decode b_O_lay 136 = .ok (.iload_n 3, 1) := by decide +kernel
theorem d_O_lay_137 : decode b_O_lay 137 = .ok (.putfield 28, 3) := by decide +kernel
theorem d_O_lay_140 : decode b_O_lay 140 = .ok (.aload_n 0, 1) := by decide +kernel
theorem d_O_lay_141 : decode b_O_lay 141 = .ok (.iload 4, 2) := by decide +kernel
theorem d_O_lay_143 : decode b_O_lay 143 = .ok (.putfield 33, 3) := by decide +kernel
theorem d_O_lay_146 : decode b_O_lay 146 = .ok (.aload_n 0, 1) := by decide +kernel
theorem d_O_lay_147 : decode b_O_lay 147 = .ok (.iload 4, 2) := by decide +kernel
theorem d_O_lay_149 : decode b_O_lay 149 = .ok (.i2l, 1) := by decide +kernel
theorem d_O_lay_150 : decode b_O_lay 150 = .ok (.lload 13, 2) := by decide +kernel
theorem d_O_lay_152 : decode b_O_lay 152 = .ok (.lmul, 1) := by decide +kernel
theorem d_O_lay_153 : decode b_O_lay 153 = .ok (.lload 5, 2) := by decide +kernel
theorem d_O_lay_155 : decode b_O_lay 155 = .ok (.lload 7, 2) := by decide +kernel
theorem d_O_lay_157 : decode b_O_lay 157 = .ok (.lmul, 1) := by decide +kernel
theorem d_O_lay_158 : decode b_O_lay 158 = .ok (.lsub, 1) := by decide +kernel
theorem d_O_lay_159 : decode b_O_lay 159 = .ok (.iload 4, 2) := by decide +kernel
theorem d_O_lay_161 : decode b_O_lay 161 = .ok (.i2l, 1) := by decide +kernel
theorem d_O_lay_162 : decode b_O_lay 162 = .ok (.lload 9, 2) := by decide +kernel
theorem d_O_lay_164 : decode b_O_lay 164 = .ok (.lmul, 1) := by decide +kernel
theorem d_O_lay_165 : decode b_O_lay 165 = .ok (.lload 5, 2) := by decide +kernel
theorem d_O_lay_167 : decode b_O_lay 167 = .ok (.lload 5, 2) := by decide +kernel
theorem d_O_lay_169 : decode b_O_lay 169 = .ok (.lmul, 1) := by decide +kernel
theorem d_O_lay_170 : decode b_O_lay 170 = .ok (.lsub, 1) := by decide +kernel
theorem d_O_lay_171 : decode b_O_lay 171 = .ok (.iload 4, 2) := by decide +kernel
theorem d_O_lay_173 : decode b_O_lay 173 = .ok (.i2l, 1) := by decide +kernel
theorem d_O_lay_174 : decode b_O_lay 174 = .ok (.lload 11, 2) := by decide +kernel
theorem d_O_lay_176 : decode b_O_lay 176 = .ok (.lmul, 1) := by decide +kernel
theorem d_O_lay_177 : decode b_O_lay 177 = .ok (.lload 7, 2) := by decide +kernel
theorem d_O_lay_179 : decode b_O_lay 179 = .ok (.lload 7, 2) := by decide +kernel
theorem d_O_lay_181 : decode b_O_lay 181 = .ok (.lmul, 1) := by decide +kernel
theorem d_O_lay_182 : decode b_O_lay 182 = .ok (.lsub, 1) := by decide +kernel
theorem d_O_lay_183 : decode b_O_lay 183 = .ok (.invokestatic 36, 3) := by decide +kernel
theorem d_O_lay_186 : decode b_O_lay 186 = .ok (.putfield 40, 3) := by decide +kernel
theorem d_O_lay_189 : decode b_O_lay 189 = .ok (.return_, 1) := by decide +kernel
theorem d_O_hundredths_0 : decode b_O_hundredths 0 = .ok (.lload_n 2, 1) := by decide +kernel
theorem d_O_hundredths_1 : decode b_O_hundredths 1 = .ok (.lconst 0, 1) := by decide +kernel
theorem d_O_hundredths_2 : decode b_O_hundredths 2 = .ok (.lcmp, 1) := by decide +kernel
theorem d_O_hundredths_3 : decode b_O_hundredths 3 = .ok (.ifCond .eq 10, 3) := by decide +kernel
theorem d_O_hundredths_6 : decode b_O_hundredths 6 = .ok (.lload 4, 2) := by decide +kernel
theorem d_O_hundredths_8 : decode b_O_hundredths 8 = .ok (.lconst 0, 1) := by decide +kernel
theorem d_O_hundredths_9 : decode b_O_hundredths 9 = .ok (.lcmp, 1) := by decide +kernel
theorem d_O_hundredths_10 : decode b_O_hundredths 10 = .ok (.ifCond .ne 5, 3) := by decide +kernel
theorem d_O_hundredths_13 : decode b_O_hundredths 13 = .ok (.iconst 0, 1) := by decide +kernel
theorem d_O_hundredths_14 : decode b_O_hundredths 14 = .ok (.ireturn, 1) := by decide +kernel
