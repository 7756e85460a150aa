theorem d_O_hundredths_15 : decode b_O_hundredths 15 = .ok (.ldc2_w 43, 3) := by decide +kernel
theorem d_O_hundredths_18 : decode b_O_hundredths 18 = .ok (.lload_n 0, 1) := by decide +kernel
theorem d_O_hundredths_19 : decode b_O_hundredths 19 = .ok (.lmul, 1) := by decide +kernel
theorem d_O_hundredths_20 : decode b_O_hundredths 20 = .ok (.lload_n 0, 1) := by decide +kernel
theorem d_O_hundredths_21 : decode b_O_hundredths 21 = .ok (.lmul, 1) := by decide +kernel
theorem d_O_hundredths_22 : decode b_O_hundredths 22 = .ok (.lstore 6, 2) := by decide +kernel
theorem d_O_hundredths_24 : decode b_O_hundredths 24 = .ok (.lconst 0, 1) := by decide +kernel
theorem d_O_hundredths_25 : decode b_O_hundredths 25 = .ok (.lstore 8, 2) := by decide +kernel
theorem d_O_hundredths_27 : decode b_O_hundredths 27 = .ok (.bipush 64, 2) := by decide +kernel
theorem d_O_hundredths_29 : decode b_O_hundredths 29 = .ok (.istore 10, 2) := by decide +kernel
theorem d_O_hundredths_31 : decode b_O_hundredths 31 = .ok (.iload 10, 2) := by decide +kernel
theorem d_O_hundredths_33 : decode b_O_hundredths 33 = .ok (.ifCond .le 40, 3) := by decide +kernel
theorem d_O_hundredths_36 : decode b_O_hundredths 36 = .ok (.lload 8, 2) := by decide +kernel
theorem d_O_hundredths_38 : decode b_O_hundredths 38 = .ok (.iload 10, 2) := by decide +kernel
theorem d_O_hundredths_40 : decode b_O_hundredths 40 = .ok (.i2l, 1) := by decide +kernel
theorem d_O_hundredths_41 : decode b_O_hundredths 41 = .ok (.ladd, 1) := by decide +kernel
theorem d_O_hundredths_42 : decode b_O_hundredths 42 = .ok (.lstore 11, 2) := by decide +kernel
theorem d_O_hundredths_44 : decode b_O_hundredths 44 = .ok (.lload 11, 2) := by decide +kernel
theorem d_O_hundredths_46 : decode b_O_hundredths 46 = .ok (.lload 11, 2) := by decide +kernel
theorem d_O_hundredths_48 : decode b_O_hundredths 48 = .ok (.lmul, 1) := by decide +kernel
theorem d_O_hundredths_49 : decode b_O_hundredths 49 = .ok (.lload_n 2, 1) := by decide +kernel
theorem d_O_hundredths_50 : decode b_O_hundredths 50 = .ok (.lmul, 1) := by decide +kernel
theorem d_O_hundredths_51 : decode b_O_hundredths 51 = .ok (.lload 4, 2) := by decide +kernel
theorem d_O_hundredths_53 : decode b_O_hundredths 53 = .ok (.lmul, 1) := by decide +kernel
theorem d_O_hundredths_54 : decode b_O_hundredths 54 = .ok (.lload 6, 2) := by decide +kernel
theorem d_O_hundredths_56 : decode b_O_hundredths 56 = .ok (.lcmp, 1) := by decide +kernel
theorem d_O_hundredths_57 : decode b_O_hundredths 57 = .ok (.ifCond .gt 7, 3) := by decide +kernel
theorem d_O_hundredths_60 : decode b_O_hundredths 60 = .ok (.lload 11, 2) := by decide +kernel
theorem d_O_hundredths_62 : decode b_O_hundredths 62 = .ok (.lstore 8, 2) := by decide +kernel
theorem d_O_hundredths_64 : decode b_O_hundredths 64 = .ok (.iload 10, 2) := by decide +kernel
theorem d_O_hundredths_66 : decode b_O_hundredths 66 = .ok (.iconst 2, 1) := by decide +kernel
theorem d_O_hundredths_67 : decode b_O_hundredths 67 = .ok (.idiv, 1) := by decide +kernel
theorem d_O_hundredths_68 : decode b_O_hundredths 68 = .ok (.istore 10, 2) := by decide +kernel
theorem d_O_hundredths_70 : decode b_O_hundredths 70 = .ok (.goto (-39), 3) := by decide +kernel
theorem d_O_hundredths_73 : decode b_O_hundredths 73 = .ok (.lload_n 0, 1) := by decide +kernel
theorem d_O_hundredths_74 : decode b_O_hundredths 74 = .ok (.lconst 0, 1) := by decide +kernel
theorem d_O_hundredths_75 : decode b_O_hundredths 75 = .ok (.lcmp, 1) := by decide +kernel
theorem d_O_hundredths_76 : decode b_O_hundredths 76 = .ok (.ifCond .ge 9, 3) := by decide +kernel
theorem d_O_hundredths_79 : decode b_O_hundredths 79 = .ok (.lload 8, 2) := by decide +kernel
theorem d_O_hundredths_81 : decode b_O_hundredths 81 = .ok (.lneg, 1) := by decide +kernel
theorem d_O_hundredths_82 : decode b_O_hundredths 82 = .ok (.goto 5, 3) := by decide +kernel
theorem d_O_hundredths_85 : decode b_O_hundredths 85 = .ok (.lload 8, 2) := by decide +kernel
theorem d_O_hundredths_87 : decode b_O_hundredths 87 = .ok (.l2i, 1) := by decide +kernel
theorem d_O_hundredths_88 : decode b_O_hundredths 88 = .ok (.ireturn, 1) := by decide +kernel
theorem d_O_compareRises_0 : decode b_O_compareRises 0 = .ok (.aload_n 0, 1) := by decide +kernel
theorem d_O_compareRises_1 : decode b_O_compareRises 1 = .ok (.iconst 0, 1) := by decide +kernel
theorem d_O_compareRises_2 : decode b_O_compareRises 2 = .ok (.putfield 45, 3) := by decide +kernel
theorem d_O_compareRises_5 : decode b_O_compareRises 5 = .ok (.aload_n 0, 1) := by decide +kernel
theorem d_O_compareRises_6 : decode b_O_compareRises 6 = .ok (.iconst 0, 1) := by decide +kernel
theorem d_O_compareRises_7 : decode b_O_compareRises 7 = .ok (.putfield 48, 3) := by decide +kernel
theorem d_O_compareRises_10 : decode b_O_compareRises 10 = .ok (.aload_n 1, 1) := by decide +kernel
theorem d_O_compareRises_11 : decode b_O_compareRises 11 = .ok (.getfield 9, 3) := by decide +kernel
theorem d_O_compareRises_14 : decode b_O_compareRises 14 = .ok (.aload_n 2, 1) := by decide +kernel
theorem d_O_compareRises_15 : decode b_O_compareRises 15 = .ok (.getfield 9, 3) := by decide +kernel
theorem d_O_compareRises_18 : decode b_O_compareRises 18 = .ok (.aload_n 0, 1) := by decide +kernel
theorem d_O_compareRises_19 : decode b_O_compareRises 19 = .ok (.getfield 28, 3) := by decide +kernel
theorem d_O_compareRises_22 : decode b_O_compareRises 22 = .ok (.iadd, 1) := by decide +kernel
theorem d_O_compareRises_23 : decode b_O_compareRises 23 = .ok (.invokestatic 15, 3) := by decide +kernel
theorem d_O_compareRises_26 : decode b_O_compareRises 26 = .ok (.istore_n 3, 1) := by decide +kernel
theorem d_O_compareRises_27 : decode b_O_compareRises 27 = .ok (.iconst 0, 1) := by decide +kernel
theorem d_O_compareRises_28 : decode b_O_compareRises 28 = .ok (.aload_n 0, 1) := by decide +kernel
theorem d_O_compareRises_29 : decode b_O_compareRises 29 = .ok (.getfield 28, 3) := by decide +kernel
theorem d_O_compareRises_32 : decode b_O_compareRises 32 = .ok (.invokestatic 21, 3) := by decide +kernel
theorem d_O_compareRises_35 : decode b_O_compareRises 35 = .ok (.iconst 1, 1) := by decide +kernel
theorem d_O_compareRises_36 : decode b_O_compareRises 36 = .ok (.iadd, 1) := by decide +kernel
theorem d_O_compareRises_37 : decode b_O_compareRises 37 = .ok (.istore 4, 2) := by decide +kernel
theorem d_O_compareRises_39 : decode b_O_compareRises 39 = .ok (.iload 4, 2) := by decide +kernel
theorem d_O_compareRises_41 : decode b_O_compareRises 41 = .ok (.iload_n 3, 1) := by decide +kernel
theorem d_O_compareRises_42 : decode b_O_compareRises 42 = .ok (.if_icmp .ge 72, 3) := by decide +kernel
theorem d_O_compareRises_45 : decode b_O_compareRises 45 = .ok (.aload_n 0, 1) := by decide +kernel
theorem d_O_compareRises_46 : decode b_O_compareRises 46 = .ok (.aload_n 1, 1) := by decide +kernel
theorem d_O_compareRises_47 : decode b_O_compareRises 47 = .ok (.aload_n 2, 1) := by decide +kernel
theorem d_O_compareRises_48 : decode b_O_compareRises 48 = .ok (.iload 4, 2) := by decide +kernel
theorem d_O_compareRises_50 : decode b_O_compareRises 50 = .ok (.iconst 1, 1) := by decide +kernel
theorem d_O_compareRises_51 : decode b_O_compareRises 51 = .ok (.isub, 1) := by decide +kernel
theorem d_O_compareRises_52 : decode b_O_compareRises 52 = .ok (.invokevirtual 51, 3) := by decide +kernel
theorem d_O_compareRises_55 : decode b_O_compareRises 55 = .ok (.ifCond .eq 53, 3) := by decide +kernel
theorem d_O_compareRises_58 : decode b_O_compareRises 58 = .ok (.aload_n 0, 1) := by decide +kernel
theorem d_O_compareRises_59 : decode b_O_compareRises 59 = .ok (.aload_n 1, 1) := by decide +kernel
theorem d_O_compareRises_60 : decode b_O_compareRises 60 = .ok (.aload_n 2, 1) := by decide +kernel
theorem d_O_compareRises_61 : decode b_O_compareRises 61 = .ok (.iload 4, 2) := by decide +kernel
theorem d_O_compareRises_63 : decode b_O_compareRises 63 = .ok (.invokevirtual 51, 3) := by decide +kernel
theorem d_O_compareRises_66 : decode b_O_compareRises 66 = .ok (.ifCond .eq 42, 3) := by decide +kernel
theorem d_O_compareRises_69 : decode b_O_compareRises 69 = .ok (.aload_n 0, 1) := by decide +kernel
theorem d_O_compareRises_70 : decode b_O_compareRises 70 = .ok (.dup, 1) := by decide +kernel
theorem d_O_compareRises_71 : decode b_O_compareRises 71 = .ok (.getfield 45, 3) := by decide +kernel
theorem d_O_compareRises_74 : decode b_O_compareRises 74 = .ok (.iconst 1, 1) := by decide +kernel
theorem d_O_compareRises_75 : decode b_O_compareRises 75 = .ok (.iadd, 1) := by decide +kernel
theorem d_O_compareRises_76 : decode b_O_compareRises 76 = .ok (.putfield 45, 3) := by decide +kernel
theorem d_O_compareRises_79 : decode b_O_compareRises 79 = .ok (.aload_n 0, 1) := by decide +kernel
theorem d_O_compareRises_80 : decode b_O_compareRises 80 = .ok (.dup, 1) := by decide +kernel
theorem d_O_compareRises_81 : decode b_O_compareRises 81 = .ok (.getfield 48, 3) := by decide +kernel
theorem d_O_compareRises_84 : decode b_O_compareRises 84 = .ok (.aload_n 1, 1) := by decide +kernel
theorem d_O_compareRises_85 : decode b_O_compareRises 85 = .ok (.iload 4, 2) := by decide +kernel
theorem d_O_compareRises_87 : decode b_O_compareRises 87 = .ok (.invokestatic 55, 3) := by decide +kernel
theorem d_O_compareRises_90 : decode b_O_compareRises 90 = .ok (.aload_n 2, 1) := by decide +kernel
theorem d_O_compareRises_91 : decode b_O_compareRises 91 = .ok (.iload 4, 2) := by decide +kernel
theorem d_O_compareRises_93 : decode b_O_compareRises 93 = .ok (.aload_n 0, 1) := by decide +kernel
theorem d_O_compareRises_94 : decode b_O_compareRises 94 = .ok (.getfield 28, 3) := by decide +kernel
theorem d_O_compareRises_97 : decode b_O_compareRises 97 = .ok (.isub, 1) := by decide +kernel
theorem d_O_compareRises_98 : decode b_O_compareRises 98 = .ok (.invokestatic 55, 3) := by decide +kernel
theorem d_O_compareRises_101 : decode b_O_compareRises 101 = .ok (.invokestatic 59, 3) := by decide +kernel
theorem d_O_compareRises_104 : decode b_O_compareRises 104 = .ok (.iadd, 1) := by decide +kernel
theorem d_O_compareRises_105 : decode b_O_compareRises 105 = .ok (.putfield 48, 3) := by decide +kernel
theorem d_O_compareRises_108 : decode b_O_compareRises 108 = .ok (.iinc 4 1, 3) := by decide +kernel
theorem d_O_compareRises_111 : decode b_O_compareRises 111 = .ok (.goto (-72), 3) := by decide +kernel
theorem d_O_compareRises_114 : decode b_O_compareRises 114 = .ok (.return_, 1) := by decide +kernel
theorem d_O_isPair_0 : decode b_O_isPair 0 = .ok (.aload_n 1, 1) := by decide +kernel
theorem d_O_isPair_1 : decode b_O_isPair 1 = .ok (.iload_n 3, 1) := by decide +kernel
theorem d_O_isPair_2 : decode b_O_isPair 2 = .ok (.invokevirtual 62, 3) := by decide +kernel
theorem d_O_isPair_5 : decode b_O_isPair 5 = .ok (.iconst (-1), 1) := by decide +kernel
theorem d_O_isPair_6 : decode b_O_isPair 6 = .ok (.if_icmp .eq 21, 3) := by decide +kernel
theorem d_O_isPair_9 : decode b_O_isPair 9 = .ok (.aload_n 2, 1) := by decide +kernel
theorem d_O_isPair_10 : decode b_O_isPair 10 = .ok (.iload_n 3, 1) := by decide +kernel
theorem d_O_isPair_11 : decode b_O_isPair 11 = .ok (.aload_n 0, 1) := by decide +kernel
theorem d_O_isPair_12 : decode b_O_isPair 12 = .ok (.getfield 28, 3) := by decide +kernel
theorem d_O_isPair_15 : decode b_O_isPair 15 = .ok (.isub, 1) := by decide +kernel
theorem d_O_isPair_16 : decode b_O_isPair 16 = .ok (.invokevirtual 62, 3) := by decide +kernel
theorem d_O_isPair_19 : decode b_O_isPair 19 = .ok (.iconst (-1), 1) := by decide +kernel
theorem d_O_isPair_20 : decode b_O_isPair 20 = .ok (.if_icmp .eq 7, 3) := by decide +kernel
theorem d_O_isPair_23 : decode b_O_isPair 23 = .ok (.iconst 1, 1) := by decide +kernel
theorem d_O_isPair_24 : decode b_O_isPair 24 = .ok (.goto 4, 3) := by decide +kernel
theorem d_O_isPair_27 : decode b_O_isPair 27 = .ok (.iconst 0, 1) := by decide +kernel
theorem d_O_isPair_28 : decode b_O_isPair 28 = .ok (.ireturn, 1) := by decide +kernel
theorem d_O_rise_0 : decode b_O_rise 0 = .ok (.aload_n 0, 1) := by decide +kernel
theorem d_O_rise_1 : decode b_O_rise 1 = .ok (.iload_n 1, 1) := by decide +kernel
theorem d_O_rise_2 : decode b_O_rise 2 = .ok (.iconst 1, 1) := by decide +kernel
theorem d_O_rise_3 : decode b_O_rise 3 = .ok (.isub, 1) := by decide +kernel
theorem d_O_rise_4 : decode b_O_rise 4 = .ok (.invokevirtual 62, 3) := by decide +kernel
theorem d_O_rise_7 : decode b_O_rise 7 = .ok (.istore_n 2, 1) := by decide +kernel
theorem d_O_rise_8 : decode b_O_rise 8 = .ok (.aload_n 0, 1) := by decide +kernel
theorem d_O_rise_9 : decode b_O_rise 9 = .ok (.iload_n 1, 1) := by decide +kernel
theorem d_O_rise_10 : decode b_O_rise 10 = .ok (.invokevirtual 62, 3) := by decide +kernel
theorem d_O_rise_13 : decode b_O_rise 13 = .ok (.istore_n 3, 1) := by decide +kernel
theorem d_O_rise_14 : decode b_O_rise 14 = .ok (.iload_n 3, 1) := by decide +kernel
theorem d_O_rise_15 : decode b_O_rise 15 = .ok (.iload_n 2, 1) := by decide +kernel
theorem d_O_rise_16 : decode b_O_rise 16 = .ok (.if_icmp .le 5, 3) := by decide +kernel
theorem d_O_rise_19 : decode b_O_rise 19 = .ok (.iconst 1, 1) := by decide +kernel
theorem d_O_rise_20 : decode b_O_rise 20 = .ok (.ireturn, 1) := by decide +kernel
theorem d_O_rise_21 : decode b_O_rise 21 = .ok (.iload_n 3, 1) := by decide +kernel
theorem d_O_rise_22 : decode b_O_rise 22 = .ok (.iload_n 2, 1) := by decide +kernel
theorem d_O_rise_23 : decode b_O_rise 23 = .ok (.if_icmp .ge 7, 3) := by decide +kernel
theorem d_O_rise_26 : decode b_O_rise 26 = .ok (.iconst (-1), 1) := by decide +kernel
theorem d_O_rise_27 : decode b_O_rise 27 = .ok (.goto 4, 3) := by decide +kernel
theorem d_O_rise_30 : decode b_O_rise 30 = .ok (.iconst 0, 1) := by decide +kernel
theorem d_O_rise_31 : decode b_O_rise 31 = .ok (.ireturn, 1) := by decide +kernel
theorem d_O_likeness_0 : decode b_O_likeness 0 = .ok (.iload_n 0, 1) := by decide +kernel
theorem d_O_likeness_1 : decode b_O_likeness 1 = .ok (.iload_n 1, 1) := by decide +kernel
theorem d_O_likeness_2 : decode b_O_likeness 2 = .ok (.if_icmp .ne 5, 3) := by decide +kernel
theorem d_O_likeness_5 : decode b_O_likeness 5 = .ok (.iconst 2, 1) := by decide +kernel
theorem d_O_likeness_6 : decode b_O_likeness 6 = .ok (.ireturn, 1) := by decide +kernel
theorem d_O_likeness_7 : decode b_O_likeness 7 = .ok (.iload_n 0, 1) := by decide +kernel
theorem d_O_likeness_8 : decode b_O_likeness 8 = .ok (.ifCond .eq 7, 3) := by decide +kernel
theorem d_O_likeness_11 : decode b_O_likeness 11 = .ok (.iload_n 1, 1) := by decide +kernel
theorem d_O_likeness_12 : decode b_O_likeness 12 = .ok (.ifCond .ne 7, 3) := by decide +kernel
theorem d_O_likeness_15 : decode b_O_likeness 15 = .ok (.iconst 1, 1) := by decide +kernel
theorem d_O_likeness_16 : decode b_O_likeness 16 = .ok (.goto 4, 3) := by decide +kernel
theorem d_O_likeness_19 : decode b_O_likeness 19 = .ok (.iconst 0, 1) := by decide +kernel
theorem d_O_likeness_20 : decode b_O_likeness 20 = .ok (.ireturn, 1) := by decide +kernel
theorem d_O_outranks_0 : decode b_O_outranks 0 = .ok (.aload_n 0, 1) := by decide +kernel
theorem d_O_outranks_1 : decode b_O_outranks 1 = .ok (.getfield 40, 3) := by decide +kernel
theorem d_O_outranks_4 : decode b_O_outranks 4 = .ok (.aload_n 1, 1) := by decide +kernel
theorem d_O_outranks_5 : decode b_O_outranks 5 = .ok (.getfield 40, 3) := by decide +kernel
theorem d_O_outranks_8 : decode b_O_outranks 8 = .ok (.if_icmp .eq 20, 3) := by decide +kernel
theorem d_O_outranks_11 : decode b_O_outranks 11 = .ok (.aload_n 0, 1) := by decide +kernel
theorem d_O_outranks_12 : decode b_O_outranks 12 = .ok (.getfield 40, 3) := by decide +kernel
theorem d_O_outranks_15 : decode b_O_outranks 15 = .ok (.aload_n 1, 1) := by decide +kernel
theorem d_O_outranks_16 : decode b_O_outranks 16 = .ok (.getfield 40, 3) := by decide +kernel
theorem d_O_outranks_19 : decode b_O_outranks 19 = .ok (.if_icmp .le 7, 3) := by decide +kernel
theorem d_O_outranks_22 : decode b_O_outranks 22 = .ok (.iconst 1, 1) := by decide +kernel
theorem d_O_outranks_23 : decode b_O_outranks 23 = .ok (.goto 4, 3) := by decide +kernel
theorem d_O_outranks_26 : decode b_O_outranks 26 = .ok (.iconst 0, 1) := by decide +kernel
theorem d_O_outranks_27 : decode b_O_outranks 27 = .ok (.ireturn, 1) := by decide +kernel
theorem d_O_outranks_28 : decode b_O_outranks 28 = .ok (.aload_n 0, 1) := by decide +kernel
theorem d_O_outranks_29 : decode b_O_outranks 29 = .ok (.getfield 33, 3) := by decide +kernel
theorem d_O_outranks_32 : decode b_O_outranks 32 = .ok (.aload_n 1, 1) := by decide +kernel
theorem d_O_outranks_33 : decode b_O_outranks 33 = .ok (.getfield 33, 3) := by decide +kernel
theorem d_O_outranks_36 : decode b_O_outranks 36 = .ok (.if_icmp .le 7, 3) := by decide +kernel
theorem d_O_outranks_39 : decode b_O_outranks 39 = .ok (.iconst 1, 1) := by decide +kernel
theorem d_O_outranks_40 : decode b_O_outranks 40 = .ok (.goto 4, 3) := by decide +kernel
theorem d_O_outranks_43 : decode b_O_outranks 43 = .ok (.iconst 0, 1) := by decide +kernel
theorem d_O_outranks_44 : decode b_O_outranks 44 = .ok (.ireturn, 1) := by decide +kernel
