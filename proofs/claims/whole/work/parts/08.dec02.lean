theorem d_R_init_0 : decode b_R_init 0 = .ok (.aload_n 0, 1) := by decide +kernel
theorem d_R_init_1 : decode b_R_init 1 = .ok (.invokespecial 3, 3) := by decide +kernel
theorem d_R_init_4 : decode b_R_init 4 = .ok (.aload_n 0, 1) := by decide +kernel
theorem d_R_init_5 : decode b_R_init 5 = .ok (.new 9, 3) := by decide +kernel
theorem d_R_init_8 : decode b_R_init 8 = .ok (.dup, 1) := by decide +kernel
theorem d_R_init_9 : decode b_R_init 9 = .ok (.invokespecial 11, 3) := by decide +kernel
theorem d_R_init_12 : decode b_R_init 12 = .ok (.putfield 12, 3) := by decide +kernel
theorem d_R_init_15 : decode b_R_init 15 = .ok (.aload_n 0, 1) := by decide +kernel
theorem d_R_init_16 : decode b_R_init 16 = .ok (.bipush 8, 2) := by decide +kernel
theorem d_R_init_18 : decode b_R_init 18 = .ok (.anewarray 16, 3) := by decide +kernel
theorem d_R_init_21 : decode b_R_init 21 = .ok (.putfield 18, 3) := by decide +kernel
theorem d_R_init_24 : decode b_R_init 24 = .ok (.iconst 0, 1) := by decide +kernel
theorem d_R_init_25 : decode b_R_init 25 = .ok (.istore_n 1, 1) := by decide +kernel
theorem d_R_init_26 : decode b_R_init 26 = .ok (.iload_n 1, 1) := by decide +kernel
theorem d_R_init_27 : decode b_R_init 27 = .ok (.aload_n 0, 1) := by decide +kernel
theorem d_R_init_28 : decode b_R_init 28 = .ok (.getfield 18, 3) := by decide +kernel
theorem d_R_init_31 : decode b_R_init 31 = .ok (.arraylength, 1) := by decide +kernel
theorem d_R_init_32 : decode b_R_init 32 = .ok (.if_icmp .ge 22, 3) := by decide +kernel
theorem d_R_init_35 : decode b_R_init 35 = .ok (.aload_n 0, 1) := by decide +kernel
theorem d_R_init_36 : decode b_R_init 36 = .ok (.getfield 18, 3) := by decide +kernel
theorem d_R_init_39 : decode b_R_init 39 = .ok (.iload_n 1, 1) := by decide +kernel
theorem d_R_init_40 : decode b_R_init 40 = .ok (.new 16, 3) := by decide +kernel
theorem d_R_init_43 : decode b_R_init 43 = .ok (.dup, 1) := by decide +kernel
theorem d_R_init_44 : decode b_R_init 44 = .ok (.invokespecial 22, 3) := by decide +kernel
theorem d_R_init_47 : decode b_R_init 47 = .ok (.aastore, 1) := by decide +kernel
theorem d_R_init_48 : decode b_R_init 48 = .ok (.iinc 1 1, 3) := by decide +kernel
theorem d_R_init_51 : decode b_R_init 51 = .ok (.goto (-25), 3) := by decide +kernel
theorem d_R_init_54 : decode b_R_init 54 = .ok (.aload_n 0, 1) := by decide +kernel
theorem d_R_init_55 : decode b_R_init 55 = .ok (.bipush 47, 2) := by decide +kernel
theorem d_R_init_57 : decode b_R_init 57 = .ok (.anewarray 23, 3) := by decide +kernel
theorem d_R_init_60 : decode b_R_init 60 = .ok (.putfield 25, 3) := by decide +kernel
theorem d_R_init_63 : decode b_R_init 63 = .ok (.iconst 0, 1) := by decide +kernel
theorem d_R_init_64 : decode b_R_init 64 = .ok (.istore_n 1, 1) := by decide +kernel
theorem d_R_init_65 : decode b_R_init 65 = .ok (.iload_n 1, 1) := by decide +kernel
theorem d_R_init_66 : decode b_R_init 66 = .ok (.aload_n 0, 1) := by decide +kernel
theorem d_R_init_67 : decode b_R_init 67 = .ok (.getfield 25, 3) := by decide +kernel
theorem d_R_init_70 : decode b_R_init 70 = .ok (.arraylength, 1) := by decide +kernel
theorem d_R_init_71 : decode b_R_init 71 = .ok (.if_icmp .ge 22, 3) := by decide +kernel
theorem d_R_init_74 : decode b_R_init 74 = .ok (.aload_n 0, 1) := by decide +kernel
theorem d_R_init_75 : decode b_R_init 75 = .ok (.getfield 25, 3) := by decide +kernel
theorem d_R_init_78 : decode b_R_init 78 = .ok (.iload_n 1, 1) := by decide +kernel
theorem d_R_init_79 : decode b_R_init 79 = .ok (.new 23, 3) := by decide +kernel
theorem d_R_init_82 : decode b_R_init 82 = .ok (.dup, 1) := by decide +kernel
theorem d_R_init_83 : decode b_R_init 83 = .ok (.invokespecial 29, 3) := by decide +kernel
theorem d_R_init_86 : decode b_R_init 86 = .ok (.aastore, 1) := by decide +kernel
theorem d_R_init_87 : decode b_R_init 87 = .ok (.iinc 1 1, 3) := by decide +kernel
theorem d_R_init_90 : decode b_R_init 90 = .ok (.goto (-25), 3) := by decide +kernel
theorem d_R_init_93 : decode b_R_init 93 = .ok (.aload_n 0, 1) := by decide +kernel
theorem d_R_init_94 : decode b_R_init 94 = .ok (.new 16, 3) := by decide +kernel
theorem d_R_init_97 : decode b_R_init 97 = .ok (.dup, 1) := by decide +kernel
theorem d_R_init_98 : decode b_R_init 98 = .ok (.invokespecial 22, 3) := by decide +kernel
theorem d_R_init_101 : decode b_R_init 101 = .ok (.putfield 30, 3) := by decide +kernel
theorem d_R_init_104 : decode b_R_init 104 = .ok (.aload_n 0, 1) := by decide +kernel
theorem d_R_init_105 : decode b_R_init 105 = .ok (.new 23, 3) := by decide +kernel
theorem d_R_init_108 : decode b_R_init 108 = .ok (.dup, 1) := by decide +kernel
theorem d_R_init_109 : decode b_R_init 109 = .ok (.invokespecial 29, 3) := by decide +kernel
theorem d_R_init_112 : decode b_R_init 112 = .ok (.putfield 34, 3) := by decide +kernel
theorem d_R_init_115 : decode b_R_init 115 = .ok (.aload_n 0, 1) := by decide +kernel
theorem d_R_init_116 : decode b_R_init 116 = .ok (.bipush 8, 2) := by decide +kernel
theorem d_R_init_118 : decode b_R_init 118 = .ok (.newarray .boolean, 2) := by decide +kernel
theorem d_R_init_120 : decode b_R_init 120 = .ok (.putfield 38, 3) := by decide +kernel
theorem d_R_init_123 : decode b_R_init 123 = .ok (.aload_n 0, 1) := by decide +kernel
theorem d_R_init_124 : decode b_R_init 124 = .ok (.bipush 8, 2) := by decide +kernel
theorem d_R_init_126 : decode b_R_init 126 = .ok (.newarray .boolean, 2) := by decide +kernel
theorem d_R_init_128 : decode b_R_init 128 = .ok (.putfield 42, 3) := by decide +kernel
theorem d_R_init_131 : decode b_R_init 131 = .ok (.return_, 1) := by decide +kernel
theorem d_R_unit_0 : decode b_R_unit 0 = .ok (.iload_n 1, 1) := by decide +kernel
theorem d_R_unit_1 : decode b_R_unit 1 = .ok (.invokestatic 45, 3) := by decide +kernel
theorem d_R_unit_4 : decode b_R_unit 4 = .ok (.ifCond .eq 10, 3) := by decide +kernel
theorem d_R_unit_7 : decode b_R_unit 7 = .ok (.iload_n 2, 1) := by decide +kernel
theorem d_R_unit_8 : decode b_R_unit 8 = .ok (.invokestatic 45, 3) := by decide +kernel
theorem d_R_unit_11 : decode b_R_unit 11 = .ok (.ifCond .ne 13, 3) := by decide +kernel
theorem d_R_unit_14 : decode b_R_unit 14 = .ok (.new 49, 3) := by decide +kernel
theorem d_R_unit_17 : decode b_R_unit 17 = .ok (.dup, 1) := by decide +kernel
theorem d_R_unit_18 : decode b_R_unit 18 = .ok (.ldc 51, 2) := by decide +kernel
theorem d_R_unit_20 : decode b_R_unit 20 = .ok (.invokespecial 53, 3) := by decide +kernel
theorem d_R_unit_23 : decode b_R_unit 23 = .ok (.athrow, 1) := by decide +kernel
theorem d_R_unit_24 : decode b_R_unit 24 = .ok (.aload_n 0, 1) := by decide +kernel
theorem d_R_unit_25 : decode b_R_unit 25 = .ok (.getfield 12, 3) := by decide +kernel
theorem d_R_unit_28 : decode b_R_unit 28 = .ok (.getfield 56, 3) := by decide +kernel
theorem d_R_unit_31 : decode b_R_unit 31 = .ok (.iload_n 1, 1) := by decide +kernel
theorem d_R_unit_32 : decode b_R_unit 32 = .ok (.invokestatic 60, 3) := by decide +kernel
theorem d_R_unit_35 : decode b_R_unit 35 = .ok (.iadd, 1) := by decide +kernel
theorem d_R_unit_36 : decode b_R_unit 36 = .ok (.iload_n 2, 1) := by decide +kernel
theorem d_R_unit_37 : decode b_R_unit 37 = .ok (.invokestatic 60, 3) := by decide +kernel
theorem d_R_unit_40 : decode b_R_unit 40 = .ok (.iadd, 1) := by decide +kernel
theorem d_R_unit_41 : decode b_R_unit 41 = .ok (.bipush 100, 2) := by decide +kernel
theorem d_R_unit_43 : decode b_R_unit 43 = .ok (.if_icmp .le 13, 3) := by decide +kernel
theorem d_R_unit_46 : decode b_R_unit 46 = .ok (.new 64, 3) := by decide +kernel
theorem d_R_unit_49 : decode b_R_unit 49 = .ok (.dup, 1) := by decide +kernel
theorem d_R_unit_50 : decode b_R_unit 50 = .ok (.ldc 66, 2) := by decide +kernel
theorem d_R_unit_52 : decode b_R_unit 52 = .ok (.invokespecial 68, 3) := by decide +kernel
theorem d_R_unit_55 : decode b_R_unit 55 = .ok (.athrow, 1) := by decide +kernel
theorem d_R_unit_56 : decode b_R_unit 56 = .ok (.aload_n 0, 1) := by decide +kernel
theorem d_R_unit_57 : decode b_R_unit 57 = .ok (.getfield 12, 3) := by decide +kernel
theorem d_R_unit_60 : decode b_R_unit 60 = .ok (.iload_n 1, 1) := by decide +kernel
theorem d_R_unit_61 : decode b_R_unit 61 = .ok (.invokevirtual 69, 3) := by decide +kernel
theorem d_R_unit_64 : decode b_R_unit 64 = .ok (.aload_n 0, 1) := by decide +kernel
theorem d_R_unit_65 : decode b_R_unit 65 = .ok (.getfield 12, 3) := by decide +kernel
theorem d_R_unit_68 : decode b_R_unit 68 = .ok (.iload_n 2, 1) := by decide +kernel
theorem d_R_unit_69 : decode b_R_unit 69 = .ok (.invokevirtual 69, 3) := by decide +kernel
theorem d_R_unit_72 : decode b_R_unit 72 = .ok (.aload_n 0, 1) := by decide +kernel
theorem d_R_unit_73 : decode b_R_unit 73 = .ok (.getfield 12, 3) := by decide +kernel
theorem d_R_unit_76 : decode b_R_unit 76 = .ok (.getfield 56, 3) := by decide +kernel
theorem d_R_unit_79 : decode b_R_unit 79 = .ok (.ireturn, 1) := by decide +kernel
theorem d_R_read_0 : decode b_R_read 0 = .ok (.aload_n 0, 1) := by decide +kernel
theorem d_R_read_1 : decode b_R_read 1 = .ok (.getfield 73, 3) := by decide +kernel
theorem d_R_read_4 : decode b_R_read 4 = .ok (.bipush 8, 2) := by decide +kernel
theorem d_R_read_6 : decode b_R_read 6 = .ok (.if_icmp .lt 13, 3) := by decide +kernel
theorem d_R_read_9 : decode b_R_read 9 = .ok (.new 64, 3) := by decide +kernel
theorem d_R_read_12 : decode b_R_read 12 = .ok (.dup, 1) := by decide +kernel
theorem d_R_read_13 : decode b_R_read 13 = .ok (.ldc 76, 2) := by decide +kernel
theorem d_R_read_15 : decode b_R_read 15 = .ok (.invokespecial 68, 3) := by decide +kernel
theorem d_R_read_18 : decode b_R_read 18 = .ok (.athrow, 1) := by decide +kernel
theorem d_R_read_19 : decode b_R_read 19 = .ok (.aload_n 0, 1) := by decide +kernel
theorem d_R_read_20 : decode b_R_read 20 = .ok (.getfield 12, 3) := by decide +kernel
theorem d_R_read_23 : decode b_R_read 23 = .ok (.aload_n 0, 1) := by decide +kernel
theorem d_R_read_24 : decode b_R_read 24 = .ok (.getfield 18, 3) := by decide +kernel
theorem d_R_read_27 : decode b_R_read 27 = .ok (.aload_n 0, 1) := by decide +kernel
theorem d_R_read_28 : decode b_R_read 28 = .ok (.getfield 73, 3) := by decide +kernel
theorem d_R_read_31 : decode b_R_read 31 = .ok (.aaload, 1) := by decide +kernel
theorem d_R_read_32 : decode b_R_read 32 = .ok (.invokevirtual 78, 3) := by decide +kernel
theorem d_R_read_35 : decode b_R_read 35 = .ok (.istore_n 1, 1) := by decide +kernel
theorem d_R_read_36 : decode b_R_read 36 = .ok (.aload_n 0, 1) := by decide +kernel
theorem d_R_read_37 : decode b_R_read 37 = .ok (.getfield 12, 3) := by decide +kernel
theorem d_R_read_40 : decode b_R_read 40 = .ok (.iconst 0, 1) := by decide +kernel
theorem d_R_read_41 : decode b_R_read 41 = .ok (.putfield 56, 3) := by decide +kernel
theorem d_R_read_44 : decode b_R_read 44 = .ok (.iload_n 1, 1) := by decide +kernel
theorem d_R_read_45 : decode b_R_read 45 = .ok (.iconst (-1), 1) := by decide +kernel
theorem d_R_read_46 : decode b_R_read 46 = .ok (.if_icmp .ne 10, 3) := by decide +kernel
theorem d_R_read_49 : decode b_R_read 49 = .ok (.aload_n 0, 1) := by decide +kernel
theorem d_R_read_50 : decode b_R_read 50 = .ok (.invokevirtual 82, 3) := by decide +kernel
theorem d_R_read_53 : decode b_R_read 53 = .ok (.goto 6, 3) := by decide +kernel
theorem d_R_read_56 : decode b_R_read 56 = .ok (.iconst (-1), 1) := by decide +kernel
theorem d_R_read_57 : decode b_R_read 57 = .ok (.iload_n 1, 1) := by decide +kernel
theorem d_R_read_58 : decode b_R_read 58 = .ok (.isub, 1) := by decide +kernel
theorem d_R_read_59 : decode b_R_read 59 = .ok (.ireturn, 1) := by decide +kernel
theorem d_R_width_0 : decode b_R_width 0 = .ok (.aload_n 0, 1) := by decide +kernel
theorem d_R_width_1 : decode b_R_width 1 = .ok (.iload_n 1, 1) := by decide +kernel
theorem d_R_width_2 : decode b_R_width 2 = .ok (.invokevirtual 86, 3) := by decide +kernel
theorem d_R_width_5 : decode b_R_width 5 = .ok (.astore_n 3, 1) := by decide +kernel
theorem d_R_width_6 : decode b_R_width 6 = .ok (.iload_n 2, 1) := by decide +kernel
theorem d_R_width_7 : decode b_R_width 7 = .ok (.iconst (-1), 1) := by decide +kernel
theorem d_R_width_8 : decode b_R_width 8 = .ok (.if_icmp .ne 8, 3) := by decide +kernel
theorem d_R_width_11 : decode b_R_width 11 = .ok (.aload_n 3, 1) := by decide +kernel
theorem d_R_width_12 : decode b_R_width 12 = .ok (.getfield 90, 3) := by decide +kernel
theorem d_R_width_15 : decode b_R_width 15 = .ok (.ireturn, 1) := by decide +kernel
theorem d_R_width_16 : decode b_R_width 16 = .ok (.aload_n 3, 1) := by decide +kernel
theorem d_R_width_17 : decode b_R_width 17 = .ok (.iload_n 2, 1) := by decide +kernel
theorem d_R_width_18 : decode b_R_width 18 = .ok (.invokevirtual 91, 3) := by decide +kernel
theorem d_R_width_21 : decode b_R_width 21 = .ok (.ifCond .ne 13, 3) := by decide +kernel
theorem d_R_width_24 : decode b_R_width 24 = .ok (.new 94, 3) := by decide +kernel
theorem d_R_width_27 : decode b_R_width 27 = .ok (.dup, 1) := by decide +kernel
theorem d_R_width_28 : decode b_R_width 28 = .ok (.ldc 96, 2) := by decide +kernel
theorem d_R_width_30 : decode b_R_width 30 = .ok (.invokespecial 98, 3) := by decide +kernel
theorem d_R_width_33 : decode b_R_width 33 = .ok (.athrow, 1) := by decide +kernel
theorem d_R_width_34 : decode b_R_width 34 = .ok (.aload_n 3, 1) := by decide +kernel
theorem d_R_width_35 : decode b_R_width 35 = .ok (.iload_n 2, 1) := by decide +kernel
theorem d_R_width_36 : decode b_R_width 36 = .ok (.invokevirtual 99, 3) := by decide +kernel
theorem d_R_width_39 : decode b_R_width 39 = .ok (.ireturn, 1) := by decide +kernel
theorem d_R_written_0 : decode b_R_written 0 = .ok (.aload_n 0, 1) := by decide +kernel
theorem d_R_written_1 : decode b_R_written 1 = .ok (.iload_n 1, 1) := by decide +kernel
theorem d_R_written_2 : decode b_R_written 2 = .ok (.invokevirtual 86, 3) := by decide +kernel
theorem d_R_written_5 : decode b_R_written 5 = .ok (.astore_n 3, 1) := by decide +kernel
theorem d_R_written_6 : decode b_R_written 6 = .ok (.aload_n 3, 1) := by decide +kernel
theorem d_R_written_7 : decode b_R_written 7 = .ok (.invokevirtual 102, 3) := by decide +kernel
theorem d_R_written_10 : decode b_R_written 10 = .ok (.istore 4, 2) := by decide +kernel
theorem d_R_written_12 : decode b_R_written 12 = .ok (.iload_n 2, 1) := by decide +kernel
theorem d_R_written_13 : decode b_R_written 13 = .ok (.iconst (-1), 1) := by decide +kernel
theorem d_R_written_14 : decode b_R_written 14 = .ok (.if_icmp .ne 6, 3) := by decide +kernel
theorem d_R_written_17 : decode b_R_written 17 = .ok (.iload 4, 2) := by decide +kernel
theorem d_R_written_19 : decode b_R_written 19 = .ok (.ireturn, 1) := by decide +kernel
theorem d_R_written_20 : decode b_R_written 20 = .ok (.iload_n 2, 1) := by decide +kernel
theorem d_R_written_21 : decode b_R_written 21 = .ok (.ifCond .lt 9, 3) := by decide +kernel
theorem d_R_written_24 : decode b_R_written 24 = .ok (.iload_n 2, 1) := by decide +kernel
theorem d_R_written_25 : decode b_R_written 25 = .ok (.iload 4, 2) := by decide +kernel
theorem d_R_written_27 : decode b_R_written 27 = .ok (.if_icmp .lt 13, 3) := by decide +kernel
theorem d_R_written_30 : decode b_R_written 30 = .ok (.new 94, 3) := by decide +kernel
theorem d_R_written_33 : decode b_R_written 33 = .ok (.dup, 1) := by decide +kernel
theorem d_R_written_34 : decode b_R_written 34 = .ok (.ldc 105, 2) := by decide +kernel
theorem d_R_written_36 : decode b_R_written 36 = .ok (.invokespecial 98, 3) := by decide +kernel
theorem d_R_written_39 : decode b_R_written 39 = .ok (.athrow, 1) := by decide +kernel
theorem d_R_written_40 : decode b_R_written 40 = .ok (.aload_n 3, 1) := by decide +kernel
theorem d_R_written_41 : decode b_R_written 41 = .ok (.iload_n 2, 1) := by decide +kernel
theorem d_R_written_42 : decode b_R_written 42 = .ok (.invokevirtual 107, 3) := by decide +kernel
theorem d_R_written_45 : decode b_R_written 45 = .ok (.ireturn, 1) := by decide +kernel
theorem d_R_evened_0 : decode b_R_evened 0 = .ok (.aload_n 0, 1) := by decide +kernel
theorem d_R_evened_1 : decode b_R_evened 1 = .ok (.iload_n 1, 1) := by decide +kernel
theorem d_R_evened_2 : decode b_R_evened 2 = .ok (.invokevirtual 86, 3) := by decide +kernel
theorem d_R_evened_5 : decode b_R_evened 5 = .ok (.astore_n 3, 1) := by decide +kernel
theorem d_R_evened_6 : decode b_R_evened 6 = .ok (.aload_n 3, 1) := by decide +kernel
theorem d_R_evened_7 : decode b_R_evened 7 = .ok (.iload_n 2, 1) := by decide +kernel
theorem d_R_evened_8 : decode b_R_evened 8 = .ok (.invokevirtual 91, 3) := by decide +kernel
theorem d_R_evened_11 : decode b_R_evened 11 = .ok (.ifCond .ne 13, 3) := by decide +kernel
theorem d_R_evened_14 : decode b_R_evened 14 = .ok (.new 94, 3) := by decide +kernel
theorem d_R_evened_17 : decode b_R_evened 17 = .ok (.dup, 1) := by decide +kernel
theorem d_R_evened_18 : decode b_R_evened 18 = .ok (.ldc 96, 2) := by decide +kernel
theorem d_R_evened_20 : decode b_R_evened 20 = .ok (.invokespecial 98, 3) := by decide +kernel
theorem d_R_evened_23 : decode b_R_evened 23 = .ok (.athrow, 1) := by decide +kernel
theorem d_R_evened_24 : decode b_R_evened 24 = .ok (.aload_n 3, 1) := by decide +kernel
theorem d_R_evened_25 : decode b_R_evened 25 = .ok (.iload_n 2, 1) := by decide +kernel
theorem d_R_evened_26 : decode b_R_evened 26 = .ok (.invokevirtual 110, 3) := by decide +kernel
theorem d_R_evened_29 : decode b_R_evened 29 = .ok (.ireturn, 1) := by decide +kernel
theorem d_R_match_0 : decode b_R_match 0 = .ok (.aload_n 0, 1) := by decide +kernel
theorem d_R_match_1 : decode b_R_match 1 = .ok (.iload_n 1, 1) := by decide +kernel
theorem d_R_match_2 : decode b_R_match 2 = .ok (.invokevirtual 86, 3) := by decide +kernel
theorem d_R_match_5 : decode b_R_match 5 = .ok (.astore 4, 2) := by decide +kernel
theorem d_R_match_7 : decode b_R_match 7 = .ok (.aload_n 0, 1) := by decide +kernel
theorem d_R_match_8 : decode b_R_match 8 = .ok (.iload_n 2, 1) := by decide +kernel
theorem d_R_match_9 : decode b_R_match 9 = .ok (.invokevirtual 86, 3) := by decide +kernel
theorem d_R_match_12 : decode b_R_match 12 = .ok (.astore 5, 2) := by decide +kernel
theorem d_R_match_14 : decode b_R_match 14 = .ok (.iload_n 3, 1) := by decide +kernel
theorem d_R_match_15 : decode b_R_match 15 = .ok (.invokestatic 113, 3) := by decide +kernel
theorem d_R_match_18 : decode b_R_match 18 = .ok (.aload_n 0, 1) := by decide +kernel
theorem d_R_match_19 : decode b_R_match 19 = .ok (.iconst 0, 1) := by decide +kernel
theorem d_R_match_20 : decode b_R_match 20 = .ok (.putfield 116, 3) := by decide +kernel
theorem d_R_match_23 : decode b_R_match 23 = .ok (.iconst 1, 1) := by decide +kernel
theorem d_R_match_24 : decode b_R_match 24 = .ok (.aload 5, 2) := by decide +kernel
theorem d_R_match_26 : decode b_R_match 26 = .ok (.getfield 90, 3) := by decide +kernel
theorem d_R_match_29 : decode b_R_match 29 = .ok (.isub, 1) := by decide +kernel
theorem d_R_match_30 : decode b_R_match 30 = .ok (.istore 6, 2) := by decide +kernel
theorem d_R_match_32 : decode b_R_match 32 = .ok (.iload 6, 2) := by decide +kernel
theorem d_R_match_34 : decode b_R_match 34 = .ok (.aload 4, 2) := by decide +kernel
theorem d_R_match_36 : decode b_R_match 36 = .ok (.getfield 90, 3) := by decide +kernel
theorem d_R_match_39 : decode b_R_match 39 = .ok (.if_icmp .ge 75, 3) := by decide +kernel
theorem d_R_match_42 : decode b_R_match 42 = .ok (.aload_n 0, 1) := by decide +kernel
theorem d_R_match_43 : decode b_R_match 43 = .ok (.getfield 116, 3) := by decide +kernel
theorem d_R_match_46 : decode b_R_match 46 = .ok (.aload_n 0, 1) := by decide +kernel
theorem d_R_match_47 : decode b_R_match 47 = .ok (.getfield 25, 3) := by decide +kernel
theorem d_R_match_50 : decode b_R_match 50 = .ok (.arraylength, 1) := by decide +kernel
theorem d_R_match_51 : decode b_R_match 51 = .ok (.if_icmp .ge 63, 3) := by decide +kernel
theorem d_R_match_54 : decode b_R_match 54 = .ok (.aload_n 0, 1) := by decide +kernel
theorem d_R_match_55 : decode b_R_match 55 = .ok (.dup, 1) := by decide +kernel
theorem d_R_match_56 : decode b_R_match 56 = .ok (.getfield 119, 3) := by decide +kernel
theorem d_R_match_59 : decode b_R_match 59 = .ok (.iconst 1, 1) := by decide +kernel
theorem d_R_match_60 : decode b_R_match 60 = .ok (.iadd, 1) := by decide +kernel
theorem d_R_match_61 : decode b_R_match 61 = .ok (.putfield 119, 3) := by decide +kernel
theorem d_R_match_64 : decode b_R_match 64 = .ok (.aload_n 0, 1) := by decide +kernel
theorem d_R_match_65 : decode b_R_match 65 = .ok (.getfield 25, 3) := by decide +kernel
theorem d_R_match_68 : decode b_R_match 68 = .ok (.aload_n 0, 1) := by decide +kernel
theorem d_R_match_69 : decode b_R_match 69 = .ok (.getfield 116, 3) := by decide +kernel
theorem d_R_match_72 : decode b_R_match 72 = .ok (.aaload, 1) := by decide +kernel
theorem d_R_match_73 : decode b_R_match 73 = .ok (.astore 7, 2) := by decide +kernel
theorem d_R_match_75 : decode b_R_match 75 = .ok (.aload 7, 2) := by decide +kernel
theorem d_R_match_77 : decode b_R_match 77 = .ok (.aload 4, 2) := by decide +kernel
theorem d_R_match_79 : decode b_R_match 79 = .ok (.aload 5, 2) := by decide +kernel
theorem d_R_match_81 : decode b_R_match 81 = .ok (.iload 6, 2) := by decide +kernel
theorem d_R_match_83 : decode b_R_match 83 = .ok (.invokevirtual 122, 3) := by decide +kernel
theorem d_R_match_86 : decode b_R_match 86 = .ok (.aload 7, 2) := by decide +kernel
theorem d_R_match_88 : decode b_R_match 88 = .ok (.getfield 126, 3) := by decide +kernel
theorem d_R_match_91 : decode b_R_match 91 = .ok (.iload_n 3, 1) := by decide +kernel
theorem d_R_match_92 : decode b_R_match 92 = .ok (.if_icmp .lt 16, 3) := by decide +kernel
theorem d_R_match_95 : decode b_R_match 95 = .ok (.aload 7, 2) := by decide +kernel
theorem d_R_match_97 : decode b_R_match 97 = .ok (.aload 4, 2) := by decide +kernel
theorem d_R_match_99 : decode b_R_match 99 = .ok (.aload 5, 2) := by decide +kernel
theorem d_R_match_101 : decode b_R_match 101 = .ok (.invokevirtual 129, 3) := by decide +kernel
theorem d_R_match_104 : decode b_R_match 104 = .ok (.aload_n 0, 1) := by decide +kernel
theorem d_R_match_105 : decode b_R_match 105 = .ok (.invokevirtual 133, 3) := by decide +kernel
theorem d_R_match_108 : decode b_R_match 108 = .ok (.iinc 6 1, 3) := by decide +kernel
theorem d_R_match_111 : decode b_R_match 111 = .ok (.goto (-79), 3) := by decide +kernel
theorem d_R_match_114 : decode b_R_match 114 = .ok (.aload_n 0, 1) := by decide +kernel
theorem d_R_match_115 : decode b_R_match 115 = .ok (.getfield 116, 3) := by decide +kernel
theorem d_R_match_118 : decode b_R_match 118 = .ok (.ireturn, 1) := by decide +kernel
theorem d_R_overlap_0 : decode b_R_overlap 0 = .ok (.aload_n 0, 1) := by decide +kernel
theorem d_R_overlap_1 : decode b_R_overlap 1 = .ok (.iload_n 1, 1) := by decide +kernel
theorem d_R_overlap_2 : decode b_R_overlap 2 = .ok (.invokevirtual 136, 3) := by decide +kernel
theorem d_R_overlap_5 : decode b_R_overlap 5 = .ok (.astore_n 3, 1) := by decide +kernel
theorem d_R_overlap_6 : decode b_R_overlap 6 = .ok (.iload_n 2, 1) := by decide +kernel
theorem d_R_overlap_7 : decode b_R_overlap 7 = .ok (.tableswitch 40 0 2 #[25, 30, 35], 25) := by decide +kernel
theorem d_R_overlap_32 : decode b_R_overlap 32 = .ok (.aload_n 3, 1) := by decide +kernel
theorem d_R_overlap_33 : decode b_R_overlap 33 = .ok (.getfield 140, 3) := by decide +kernel
theorem d_R_overlap_36 : decode b_R_overlap 36 = .ok (.ireturn, 1) := by decide +kernel
theorem d_R_overlap_37 : decode b_R_overlap 37 = .ok (.aload_n 3, 1) := by decide +kernel
theorem d_R_overlap_38 : decode b_R_overlap 38 = .ok (.getfield 126, 3) := by decide +kernel
theorem d_R_overlap_41 : decode b_R_overlap 41 = .ok (.ireturn, 1) := by decide +kernel
theorem d_R_overlap_42 : decode b_R_overlap 42 = .ok (.aload_n 3, 1) := by decide +kernel
theorem d_R_overlap_43 : decode b_R_overlap 43 = .ok (.getfield 143, 3) := by decide +kernel
theorem d_R_overlap_46 : decode b_R_overlap 46 = .ok (.ireturn, 1) := by decide +kernel
theorem d_R_overlap_47 : decode b_R_overlap 47 = .ok (.new 94, 3) := by decide +kernel
theorem d_R_overlap_50 : decode b_R_overlap 50 = .ok (.dup, 1) := by decide +kernel
theorem d_R_overlap_51 : decode b_R_overlap 51 = .ok (.ldc 146, 2) := by decide +kernel
theorem d_R_overlap_53 : decode b_R_overlap 53 = .ok (.invokespecial 98, 3) := by decide +kernel
theorem d_R_overlap_56 : decode b_R_overlap 56 = .ok (.athrow, 1) := by decide +kernel
theorem d_R_agree_0 : decode b_R_agree 0 = .ok (.aload_n 0, 1) := by decide +kernel
theorem d_R_agree_1 : decode b_R_agree 1 = .ok (.iload_n 1, 1) := by decide +kernel
theorem d_R_agree_2 : decode b_R_agree 2 = .ok (.invokevirtual 136, 3) := by decide +kernel
theorem d_R_agree_5 : decode b_R_agree 5 = .ok (.astore_n 3, 1) := by decide +kernel
theorem d_R_agree_6 : decode b_R_agree 6 = .ok (.iload_n 2, 1) := by decide +kernel
theorem d_R_agree_7 : decode b_R_agree 7 = .ok (.invokestatic 148, 3) := by decide +kernel
theorem d_R_agree_10 : decode b_R_agree 10 = .ok (.aload_n 3, 1) := by decide +kernel
theorem d_R_agree_11 : decode b_R_agree 11 = .ok (.getfield 151, 3) := by decide +kernel
theorem d_R_agree_14 : decode b_R_agree 14 = .ok (.ifCond .ne 7, 3) := by decide +kernel
theorem d_R_agree_17 : decode b_R_agree 17 = .ok (.iconst 1, 1) := by decide +kernel
theorem d_R_agree_18 : decode b_R_agree 18 = .ok (.goto 9, 3) := by decide +kernel
theorem d_R_agree_21 : decode b_R_agree 21 = .ok (.iconst 2, 1) := by decide +kernel
theorem d_R_agree_22 : decode b_R_agree 22 = .ok (.aload_n 3, 1) := by decide +kernel
theorem d_R_agree_23 : decode b_R_agree 23 = .ok (.getfield 151, 3) := by decide +kernel
theorem d_R_agree_26 : decode b_R_agree 26 = .ok (.imul, 1) := by decide +kernel
theorem d_R_agree_27 : decode b_R_agree 27 = .ok (.istore 4, 2) := by decide +kernel
theorem d_R_agree_29 : decode b_R_agree 29 = .ok (.aload_n 3, 1) := by decide +kernel
theorem d_R_agree_30 : decode b_R_agree 30 = .ok (.getfield 154, 3) := by decide +kernel
theorem d_R_agree_33 : decode b_R_agree 33 = .ok (.i2l, 1) := by decide +kernel
theorem d_R_agree_34 : decode b_R_agree 34 = .ok (.iload 4, 2) := by decide +kernel
theorem d_R_agree_36 : decode b_R_agree 36 = .ok (.i2l, 1) := by decide +kernel
theorem d_R_agree_37 : decode b_R_agree 37 = .ok (.iload_n 2, 1) := by decide +kernel
theorem d_R_agree_38 : decode b_R_agree 38 = .ok (.invokestatic 157, 3) := by decide +kernel
theorem d_R_agree_41 : decode b_R_agree 41 = .ok (.l2i, 1) := by decide +kernel
theorem d_R_agree_42 : decode b_R_agree 42 = .ok (.ireturn, 1) := by decide +kernel
theorem d_R_odds_0 : decode b_R_odds 0 = .ok (.aload_n 0, 1) := by decide +kernel
theorem d_R_odds_1 : decode b_R_odds 1 = .ok (.iload_n 1, 1) := by decide +kernel
theorem d_R_odds_2 : decode b_R_odds 2 = .ok (.invokevirtual 136, 3) := by decide +kernel
theorem d_R_odds_5 : decode b_R_odds 5 = .ok (.astore_n 3, 1) := by decide +kernel
theorem d_R_odds_6 : decode b_R_odds 6 = .ok (.iload_n 2, 1) := by decide +kernel
theorem d_R_odds_7 : decode b_R_odds 7 = .ok (.invokestatic 148, 3) := by decide +kernel
theorem d_R_odds_10 : decode b_R_odds 10 = .ok (.aload_n 3, 1) := by decide +kernel
theorem d_R_odds_11 : decode b_R_odds 11 = .ok (.getfield 154, 3) := by decide +kernel
theorem d_R_odds_14 : decode b_R_odds 14 = .ok (.iconst 1, 1) := by decide +kernel
theorem d_R_odds_15 : decode b_R_odds 15 = .ok (.iadd, 1) := by decide +kernel
theorem d_R_odds_16 : decode b_R_odds 16 = .ok (.iconst 2, 1) := by decide +kernel
theorem d_R_odds_17 : decode b_R_odds 17 = .ok (.idiv, 1) := by decide +kernel
theorem d_R_odds_18 : decode b_R_odds 18 = .ok (.aload_n 3, 1) := by decide +kernel
theorem d_R_odds_19 : decode b_R_odds 19 = .ok (.getfield 151, 3) := by decide +kernel
theorem d_R_odds_22 : decode b_R_odds 22 = .ok (.invokestatic 161, 3) := by decide +kernel
theorem d_R_odds_25 : decode b_R_odds 25 = .ok (.aload_n 0, 1) := by decide +kernel
theorem d_R_odds_26 : decode b_R_odds 26 = .ok (.getfield 119, 3) := by decide +kernel
theorem d_R_odds_29 : decode b_R_odds 29 = .ok (.i2l, 1) := by decide +kernel
theorem d_R_odds_30 : decode b_R_odds 30 = .ok (.lmul, 1) := by decide +kernel
theorem d_R_odds_31 : decode b_R_odds 31 = .ok (.lstore 4, 2) := by decide +kernel
theorem d_R_odds_33 : decode b_R_odds 33 = .ok (.lconst 1, 1) := by decide +kernel
theorem d_R_odds_34 : decode b_R_odds 34 = .ok (.aload_n 3, 1) := by decide +kernel
theorem d_R_odds_35 : decode b_R_odds 35 = .ok (.getfield 151, 3) := by decide +kernel
theorem d_R_odds_38 : decode b_R_odds 38 = .ok (.lshl, 1) := by decide +kernel
theorem d_R_odds_39 : decode b_R_odds 39 = .ok (.lstore 6, 2) := by decide +kernel
theorem d_R_odds_41 : decode b_R_odds 41 = .ok (.lload 4, 2) := by decide +kernel
theorem d_R_odds_43 : decode b_R_odds 43 = .ok (.lload 6, 2) := by decide +kernel
theorem d_R_odds_45 : decode b_R_odds 45 = .ok (.lcmp, 1) := by decide +kernel
theorem d_R_odds_46 : decode b_R_odds 46 = .ok (.ifCond .lt 5, 3) := by decide +kernel
theorem d_R_odds_49 : decode b_R_odds 49 = .ok (.lconst 1, 1) := by decide +kernel
theorem d_R_odds_50 : decode b_R_odds 50 = .ok (.lreturn, 1) := by decide +kernel
theorem d_R_odds_51 : decode b_R_odds 51 = .ok (.lload 4, 2) := by decide +kernel
theorem d_R_odds_53 : decode b_R_odds 53 = .ok (.lload 6, 2) := by decide +kernel
theorem d_R_odds_55 : decode b_R_odds 55 = .ok (.iload_n 2, 1) := by decide +kernel
theorem d_R_odds_56 : decode b_R_odds 56 = .ok (.invokestatic 157, 3) := by decide +kernel
theorem d_R_odds_59 : decode b_R_odds 59 = .ok (.lreturn, 1) := by decide +kernel
theorem d_R_absent_0 : decode b_R_absent 0 = .ok (.aload_n 0, 1) := by decide +kernel
theorem d_R_absent_1 : decode b_R_absent 1 = .ok (.iload_n 1, 1) := by decide +kernel
theorem d_R_absent_2 : decode b_R_absent 2 = .ok (.invokevirtual 86, 3) := by decide +kernel
theorem d_R_absent_5 : decode b_R_absent 5 = .ok (.astore 4, 2) := by decide +kernel
theorem d_R_absent_7 : decode b_R_absent 7 = .ok (.aload_n 0, 1) := by decide +kernel
theorem d_R_absent_8 : decode b_R_absent 8 = .ok (.iload_n 2, 1) := by decide +kernel
theorem d_R_absent_9 : decode b_R_absent 9 = .ok (.invokevirtual 86, 3) := by decide +kernel
theorem d_R_absent_12 : decode b_R_absent 12 = .ok (.astore 5, 2) := by decide +kernel
theorem d_R_absent_14 : decode b_R_absent 14 = .ok (.aload 5, 2) := by decide +kernel
theorem d_R_absent_16 : decode b_R_absent 16 = .ok (.getfield 90, 3) := by decide +kernel
theorem d_R_absent_19 : decode b_R_absent 19 = .ok (.bipush 24, 2) := by decide +kernel
theorem d_R_absent_21 : decode b_R_absent 21 = .ok (.if_icmp .lt 13, 3) := by decide +kernel
theorem d_R_absent_24 : decode b_R_absent 24 = .ok (.new 49, 3) := by decide +kernel
theorem d_R_absent_27 : decode b_R_absent 27 = .ok (.dup, 1) := by decide +kernel
theorem d_R_absent_28 : decode b_R_absent 28 = .ok (.ldc 165, 2) := by decide +kernel
theorem d_R_absent_30 : decode b_R_absent 30 = .ok (.invokespecial 53, 3) := by decide +kernel
theorem d_R_absent_33 : decode b_R_absent 33 = .ok (.athrow, 1) := by decide +kernel
theorem d_R_absent_34 : decode b_R_absent 34 = .ok (.iload_n 3, 1) := by decide +kernel
theorem d_R_absent_35 : decode b_R_absent 35 = .ok (.bipush (-24), 2) := by decide +kernel
theorem d_R_absent_37 : decode b_R_absent 37 = .ok (.if_icmp .lt 9, 3) := by decide +kernel
theorem d_R_absent_40 : decode b_R_absent 40 = .ok (.iload_n 3, 1) := by decide +kernel
theorem d_R_absent_41 : decode b_R_absent 41 = .ok (.bipush 24, 2) := by decide +kernel
theorem d_R_absent_43 : decode b_R_absent 43 = .ok (.if_icmp .le 13, 3) := by decide +kernel
theorem d_R_absent_46 : decode b_R_absent 46 = .ok (.new 49, 3) := by decide +kernel
theorem d_R_absent_49 : decode b_R_absent 49 = .ok (.dup, 1) := by decide +kernel
theorem d_R_absent_50 : decode b_R_absent 50 = .ok (.ldc 167, 2) := by decide +kernel
theorem d_R_absent_52 : decode b_R_absent 52 = .ok (.invokespecial 53, 3) := by decide +kernel
theorem d_R_absent_55 : decode b_R_absent 55 = .ok (.athrow, 1) := by decide +kernel
theorem d_R_absent_56 : decode b_R_absent 56 = .ok (.iconst (-1), 1) := by decide +kernel
theorem d_R_absent_57 : decode b_R_absent 57 = .ok (.istore 6, 2) := by decide +kernel
theorem d_R_absent_59 : decode b_R_absent 59 = .ok (.iconst 0, 1) := by decide +kernel
theorem d_R_absent_60 : decode b_R_absent 60 = .ok (.istore 7, 2) := by decide +kernel
theorem d_R_absent_62 : decode b_R_absent 62 = .ok (.iconst 0, 1) := by decide +kernel
theorem d_R_absent_63 : decode b_R_absent 63 = .ok (.istore 8, 2) := by decide +kernel
theorem d_R_absent_65 : decode b_R_absent 65 = .ok (.iload 8, 2) := by decide +kernel
theorem d_R_absent_67 : decode b_R_absent 67 = .ok (.aload 5, 2) := by decide +kernel
theorem d_R_absent_69 : decode b_R_absent 69 = .ok (.getfield 90, 3) := by decide +kernel
theorem d_R_absent_72 : decode b_R_absent 72 = .ok (.if_icmp .gt 76, 3) := by decide +kernel
theorem d_R_absent_75 : decode b_R_absent 75 = .ok (.aload_n 0, 1) := by decide +kernel
theorem d_R_absent_76 : decode b_R_absent 76 = .ok (.getfield 30, 3) := by decide +kernel
theorem d_R_absent_79 : decode b_R_absent 79 = .ok (.aload 5, 2) := by decide +kernel
theorem d_R_absent_81 : decode b_R_absent 81 = .ok (.iload 8, 2) := by decide +kernel
theorem d_R_absent_83 : decode b_R_absent 83 = .ok (.invokevirtual 169, 3) := by decide +kernel
theorem d_R_absent_86 : decode b_R_absent 86 = .ok (.aload_n 0, 1) := by decide +kernel
theorem d_R_absent_87 : decode b_R_absent 87 = .ok (.getfield 34, 3) := by decide +kernel
theorem d_R_absent_90 : decode b_R_absent 90 = .ok (.aload 4, 2) := by decide +kernel
theorem d_R_absent_92 : decode b_R_absent 92 = .ok (.aload_n 0, 1) := by decide +kernel
theorem d_R_absent_93 : decode b_R_absent 93 = .ok (.getfield 30, 3) := by decide +kernel
theorem d_R_absent_96 : decode b_R_absent 96 = .ok (.iload_n 3, 1) := by decide +kernel
theorem d_R_absent_97 : decode b_R_absent 97 = .ok (.invokevirtual 122, 3) := by decide +kernel
theorem d_R_absent_100 : decode b_R_absent 100 = .ok (.aload_n 0, 1) := by decide +kernel
theorem d_R_absent_101 : decode b_R_absent 101 = .ok (.getfield 34, 3) := by decide +kernel
theorem d_R_absent_104 : decode b_R_absent 104 = .ok (.getfield 126, 3) := by decide +kernel
theorem d_R_absent_107 : decode b_R_absent 107 = .ok (.iconst 3, 1) := by decide +kernel
theorem d_R_absent_108 : decode b_R_absent 108 = .ok (.if_icmp .lt 34, 3) := by decide +kernel
theorem d_R_absent_111 : decode b_R_absent 111 = .ok (.iload 6, 2) := by decide +kernel
theorem d_R_absent_113 : decode b_R_absent 113 = .ok (.iconst (-1), 1) := by decide +kernel
theorem d_R_absent_114 : decode b_R_absent 114 = .ok (.if_icmp .eq 15, 3) := by decide +kernel
theorem d_R_absent_117 : decode b_R_absent 117 = .ok (.aload_n 0, 1) := by decide +kernel
theorem d_R_absent_118 : decode b_R_absent 118 = .ok (.getfield 34, 3) := by decide +kernel
theorem d_R_absent_121 : decode b_R_absent 121 = .ok (.getfield 143, 3) := by decide +kernel
theorem d_R_absent_124 : decode b_R_absent 124 = .ok (.iload 7, 2) := by decide +kernel
theorem d_R_absent_126 : decode b_R_absent 126 = .ok (.if_icmp .le 16, 3) := by decide +kernel
theorem d_R_absent_129 : decode b_R_absent 129 = .ok (.iload 8, 2) := by decide +kernel
theorem d_R_absent_131 : decode b_R_absent 131 = .ok (.istore 6, 2) := by decide +kernel
theorem d_R_absent_133 : decode b_R_absent 133 = .ok (.aload_n 0, 1) := by decide +kernel
theorem d_R_absent_134 : decode b_R_absent 134 = .ok (.getfield 34, 3) := by decide +kernel
theorem d_R_absent_137 : decode b_R_absent 137 = .ok (.getfield 143, 3) := by decide +kernel
theorem d_R_absent_140 : decode b_R_absent 140 = .ok (.istore 7, 2) := by decide +kernel
theorem d_R_absent_142 : decode b_R_absent 142 = .ok (.iinc 8 1, 3) := by decide +kernel
theorem d_R_absent_145 : decode b_R_absent 145 = .ok (.goto (-80), 3) := by decide +kernel
theorem d_R_absent_148 : decode b_R_absent 148 = .ok (.iload 6, 2) := by decide +kernel
theorem d_R_absent_150 : decode b_R_absent 150 = .ok (.ireturn, 1) := by decide +kernel
theorem d_R_core_0 : decode b_R_core 0 = .ok (.aload_n 0, 1) := by decide +kernel
theorem d_R_core_1 : decode b_R_core 1 = .ok (.iload_n 1, 1) := by decide +kernel
theorem d_R_core_2 : decode b_R_core 2 = .ok (.invokevirtual 86, 3) := by decide +kernel
theorem d_R_core_5 : decode b_R_core 5 = .ok (.astore 4, 2) := by decide +kernel
theorem d_R_core_7 : decode b_R_core 7 = .ok (.aload_n 0, 1) := by decide +kernel
theorem d_R_core_8 : decode b_R_core 8 = .ok (.iload_n 2, 1) := by decide +kernel
theorem d_R_core_9 : decode b_R_core 9 = .ok (.invokevirtual 86, 3) := by decide +kernel
theorem d_R_core_12 : decode b_R_core 12 = .ok (.astore 5, 2) := by decide +kernel
theorem d_R_core_14 : decode b_R_core 14 = .ok (.aload_n 0, 1) := by decide +kernel
theorem d_R_core_15 : decode b_R_core 15 = .ok (.getfield 73, 3) := by decide +kernel
theorem d_R_core_18 : decode b_R_core 18 = .ok (.bipush 8, 2) := by decide +kernel
theorem d_R_core_20 : decode b_R_core 20 = .ok (.if_icmp .lt 13, 3) := by decide +kernel
theorem d_R_core_23 : decode b_R_core 23 = .ok (.new 64, 3) := by decide +kernel
theorem d_R_core_26 : decode b_R_core 26 = .ok (.dup, 1) := by decide +kernel
theorem d_R_core_27 : decode b_R_core 27 = .ok (.ldc 76, 2) := by decide +kernel
theorem d_R_core_29 : decode b_R_core 29 = .ok (.invokespecial 68, 3) := by decide +kernel
theorem d_R_core_32 : decode b_R_core 32 = .ok (.athrow, 1) := by decide +kernel
theorem d_R_core_33 : decode b_R_core 33 = .ok (.iload_n 3, 1) := by decide +kernel
theorem d_R_core_34 : decode b_R_core 34 = .ok (.aload 5, 2) := by decide +kernel
theorem d_R_core_36 : decode b_R_core 36 = .ok (.getfield 90, 3) := by decide +kernel
theorem d_R_core_39 : decode b_R_core 39 = .ok (.ineg, 1) := by decide +kernel
theorem d_R_core_40 : decode b_R_core 40 = .ok (.if_icmp .le 12, 3) := by decide +kernel
theorem d_R_core_43 : decode b_R_core 43 = .ok (.iload_n 3, 1) := by decide +kernel
theorem d_R_core_44 : decode b_R_core 44 = .ok (.aload 4, 2) := by decide +kernel
theorem d_R_core_46 : decode b_R_core 46 = .ok (.getfield 90, 3) := by decide +kernel
theorem d_R_core_49 : decode b_R_core 49 = .ok (.if_icmp .lt 5, 3) := by decide +kernel
theorem d_R_core_52 : decode b_R_core 52 = .ok (.iconst (-1), 1) := by decide +kernel
theorem d_R_core_53 : decode b_R_core 53 = .ok (.ireturn, 1) := by decide +kernel
theorem d_R_core_54 : decode b_R_core 54 = .ok (.iconst 0, 1) := by decide +kernel
theorem d_R_core_55 : decode b_R_core 55 = .ok (.iload_n 3, 1) := by decide +kernel
theorem d_R_core_56 : decode b_R_core 56 = .ok (.invokestatic 173, 3) := by decide +kernel
theorem d_R_core_59 : decode b_R_core 59 = .ok (.istore 6, 2) := by decide +kernel
theorem d_R_core_61 : decode b_R_core 61 = .ok (.aload 4, 2) := by decide +kernel
theorem d_R_core_63 : decode b_R_core 63 = .ok (.getfield 90, 3) := by decide +kernel
theorem d_R_core_66 : decode b_R_core 66 = .ok (.aload 5, 2) := by decide +kernel
theorem d_R_core_68 : decode b_R_core 68 = .ok (.getfield 90, 3) := by decide +kernel
theorem d_R_core_71 : decode b_R_core 71 = .ok (.iload_n 3, 1) := by decide +kernel
theorem d_R_core_72 : decode b_R_core 72 = .ok (.iadd, 1) := by decide +kernel
theorem d_R_core_73 : decode b_R_core 73 = .ok (.invokestatic 179, 3) := by decide +kernel
theorem d_R_core_76 : decode b_R_core 76 = .ok (.istore 7, 2) := by decide +kernel
theorem d_R_core_78 : decode b_R_core 78 = .ok (.iload 7, 2) := by decide +kernel
theorem d_R_core_80 : decode b_R_core 80 = .ok (.iload 6, 2) := by decide +kernel
theorem d_R_core_82 : decode b_R_core 82 = .ok (.isub, 1) := by decide +kernel
theorem d_R_core_83 : decode b_R_core 83 = .ok (.bipush 24, 2) := by decide +kernel
theorem d_R_core_85 : decode b_R_core 85 = .ok (.if_icmp .le 5, 3) := by decide +kernel
theorem d_R_core_88 : decode b_R_core 88 = .ok (.iconst (-1), 1) := by decide +kernel
theorem d_R_core_89 : decode b_R_core 89 = .ok (.ireturn, 1) := by decide +kernel
theorem d_R_core_90 : decode b_R_core 90 = .ok (.aload_n 0, 1) := by decide +kernel
theorem d_R_core_91 : decode b_R_core 91 = .ok (.getfield 18, 3) := by decide +kernel
theorem d_R_core_94 : decode b_R_core 94 = .ok (.aload_n 0, 1) := by decide +kernel
theorem d_R_core_95 : decode b_R_core 95 = .ok (.getfield 73, 3) := by decide +kernel
theorem d_R_core_98 : decode b_R_core 98 = .ok (.aaload, 1) := by decide +kernel
theorem d_R_core_99 : decode b_R_core 99 = .ok (.astore 8, 2) := by decide +kernel
theorem d_R_core_101 : decode b_R_core 101 = .ok (.aload 8, 2) := by decide +kernel
theorem d_R_core_103 : decode b_R_core 103 = .ok (.iconst 0, 1) := by decide +kernel
theorem d_R_core_104 : decode b_R_core 104 = .ok (.putfield 90, 3) := by decide +kernel
theorem d_R_core_107 : decode b_R_core 107 = .ok (.iload 6, 2) := by decide +kernel
theorem d_R_core_109 : decode b_R_core 109 = .ok (.istore 9, 2) := by decide +kernel
theorem d_R_core_111 : decode b_R_core 111 = .ok (.iload 9, 2) := by decide +kernel
theorem d_R_core_113 : decode b_R_core 113 = .ok (.iload 7, 2) := by decide +kernel
theorem d_R_core_115 : decode b_R_core 115 = .ok (.if_icmp .ge 33, 3) := by decide +kernel
theorem d_R_core_118 : decode b_R_core 118 = .ok (.aload 8, 2) := by decide +kernel
theorem d_R_core_120 : decode b_R_core 120 = .ok (.aload 4, 2) := by decide +kernel
theorem d_R_core_122 : decode b_R_core 122 = .ok (.iload 9, 2) := by decide +kernel
theorem d_R_core_124 : decode b_R_core 124 = .ok (.invokevirtual 99, 3) := by decide +kernel
theorem d_R_core_127 : decode b_R_core 127 = .ok (.aload 5, 2) := by decide +kernel
theorem d_R_core_129 : decode b_R_core 129 = .ok (.iload 9, 2) := by decide +kernel
theorem d_R_core_131 : decode b_R_core 131 = .ok (.iload_n 3, 1) := by decide +kernel
theorem d_R_core_132 : decode b_R_core 132 = .ok (.isub, 1) := by decide +kernel
theorem d_R_core_133 : decode b_R_core 133 = .ok (.invokevirtual 99, 3) := by decide +kernel
theorem d_R_core_136 : decode b_R_core 136 = .ok (.invokestatic 182, 3) := by decide +kernel
theorem d_R_core_139 : decode b_R_core 139 = .ok (.invokevirtual 185, 3) := by decide +kernel
theorem d_R_core_142 : decode b_R_core 142 = .ok (.iinc 9 1, 3) := by decide +kernel
theorem d_R_core_145 : decode b_R_core 145 = .ok (.goto (-34), 3) := by decide +kernel
theorem d_R_core_148 : decode b_R_core 148 = .ok (.aload 8, 2) := by decide +kernel
theorem d_R_core_150 : decode b_R_core 150 = .ok (.invokevirtual 188, 3) := by decide +kernel
theorem d_R_core_153 : decode b_R_core 153 = .ok (.aload_n 0, 1) := by decide +kernel
theorem d_R_core_154 : decode b_R_core 154 = .ok (.invokevirtual 82, 3) := by decide +kernel
theorem d_R_core_157 : decode b_R_core 157 = .ok (.ireturn, 1) := by decide +kernel
theorem d_R_group_0 : decode b_R_group 0 = .ok (.aload_n 0, 1) := by decide +kernel
theorem d_R_group_1 : decode b_R_group 1 = .ok (.iload_n 1, 1) := by decide +kernel
theorem d_R_group_2 : decode b_R_group 2 = .ok (.invokevirtual 86, 3) := by decide +kernel
theorem d_R_group_5 : decode b_R_group 5 = .ok (.pop, 1) := by decide +kernel
