theorem d_P_init_0 : decode b_P_init 0 = .ok (.aload_n 0, 1) := by decide +kernel
theorem d_P_init_1 : decode b_P_init 1 = .ok (.invokespecial 3, 3) := by decide +kernel
theorem d_P_init_4 : decode b_P_init 4 = .ok (.aload_n 0, 1) := by decide +kernel
theorem d_P_init_5 : decode b_P_init 5 = .ok (.bipush 100, 2) := by decide +kernel
theorem d_P_init_7 : decode b_P_init 7 = .ok (.newarray .int, 2) := by decide +kernel
theorem d_P_init_9 : decode b_P_init 9 = .ok (.putfield 9, 3) := by decide +kernel
theorem d_P_init_12 : decode b_P_init 12 = .ok (.return_, 1) := by decide +kernel
theorem d_P_signOf_0 : decode b_P_signOf 0 = .ok (.iload_n 0, 1) := by decide +kernel
theorem d_P_signOf_1 : decode b_P_signOf 1 = .ok (.bipush 8, 2) := by decide +kernel
theorem d_P_signOf_3 : decode b_P_signOf 3 = .ok (.iload_n 1, 1) := by decide +kernel
theorem d_P_signOf_4 : decode b_P_signOf 4 = .ok (.imul, 1) := by decide +kernel
theorem d_P_signOf_5 : decode b_P_signOf 5 = .ok (.iushr, 1) := by decide +kernel
theorem d_P_signOf_6 : decode b_P_signOf 6 = .ok (.sipush 255, 3) := by decide +kernel
theorem d_P_signOf_9 : decode b_P_signOf 9 = .ok (.iand, 1) := by decide +kernel
theorem d_P_signOf_10 : decode b_P_signOf 10 = .ok (.ireturn, 1) := by decide +kernel
theorem d_P_takes_0 : decode b_P_takes 0 = .ok (.iconst 0, 1) := by decide +kernel
theorem d_P_takes_1 : decode b_P_takes 1 = .ok (.istore_n 1, 1) := by decide +kernel
theorem d_P_takes_2 : decode b_P_takes 2 = .ok (.iload_n 1, 1) := by decide +kernel
theorem d_P_takes_3 : decode b_P_takes 3 = .ok (.iconst 4, 1) := by decide +kernel
theorem d_P_takes_4 : decode b_P_takes 4 = .ok (.if_icmp .ge 33, 3) := by decide +kernel
theorem d_P_takes_7 : decode b_P_takes 7 = .ok (.iload_n 0, 1) := by decide +kernel
theorem d_P_takes_8 : decode b_P_takes 8 = .ok (.iload_n 1, 1) := by decide +kernel
theorem d_P_takes_9 : decode b_P_takes 9 = .ok (.invokestatic 15, 3) := by decide +kernel
theorem d_P_takes_12 : decode b_P_takes 12 = .ok (.istore_n 2, 1) := by decide +kernel
theorem d_P_takes_13 : decode b_P_takes 13 = .ok (.iload_n 2, 1) := by decide +kernel
theorem d_P_takes_14 : decode b_P_takes 14 = .ok (.ifCond .eq 17, 3) := by decide +kernel
theorem d_P_takes_17 : decode b_P_takes 17 = .ok (.iload_n 2, 1) := by decide +kernel
theorem d_P_takes_18 : decode b_P_takes 18 = .ok (.bipush 32, 2) := by decide +kernel
theorem d_P_takes_20 : decode b_P_takes 20 = .ok (.if_icmp .lt 9, 3) := by decide +kernel
theorem d_P_takes_23 : decode b_P_takes 23 = .ok (.iload_n 2, 1) := by decide +kernel
theorem d_P_takes_24 : decode b_P_takes 24 = .ok (.bipush 126, 2) := by decide +kernel
theorem d_P_takes_26 : decode b_P_takes 26 = .ok (.if_icmp .le 5, 3) := by decide +kernel
theorem d_P_takes_29 : decode b_P_takes 29 = .ok (.iconst 0, 1) := by decide +kernel
theorem d_P_takes_30 : decode b_P_takes 30 = .ok (.ireturn, 1) := by decide +kernel
theorem d_P_takes_31 : decode b_P_takes 31 = .ok (.iinc 1 1, 3) := by decide +kernel
theorem d_P_takes_34 : decode b_P_takes 34 = .ok (.goto (-32), 3) := by decide +kernel
theorem d_P_takes_37 : decode b_P_takes 37 = .ok (.iconst 1, 1) := by decide +kernel
theorem d_P_takes_38 : decode b_P_takes 38 = .ok (.ireturn, 1) := by decide +kernel
theorem d_P_signsIn_0 : decode b_P_signsIn 0 = .ok (.iconst 0, 1) := by decide +kernel
theorem d_P_signsIn_1 : decode b_P_signsIn 1 = .ok (.istore_n 1, 1) := by decide +kernel
theorem d_P_signsIn_2 : decode b_P_signsIn 2 = .ok (.iconst 0, 1) := by decide +kernel
theorem d_P_signsIn_3 : decode b_P_signsIn 3 = .ok (.istore_n 2, 1) := by decide +kernel
theorem d_P_signsIn_4 : decode b_P_signsIn 4 = .ok (.iload_n 2, 1) := by decide +kernel
theorem d_P_signsIn_5 : decode b_P_signsIn 5 = .ok (.iconst 4, 1) := by decide +kernel
theorem d_P_signsIn_6 : decode b_P_signsIn 6 = .ok (.if_icmp .ge 20, 3) := by decide +kernel
theorem d_P_signsIn_9 : decode b_P_signsIn 9 = .ok (.iload_n 0, 1) := by decide +kernel
theorem d_P_signsIn_10 : decode b_P_signsIn 10 = .ok (.iload_n 2, 1) := by decide +kernel
theorem d_P_signsIn_11 : decode b_P_signsIn 11 = .ok (.invokestatic 15, 3) := by decide +kernel
theorem d_P_signsIn_14 : decode b_P_signsIn 14 = .ok (.ifCond .eq 6, 3) := by decide +kernel
theorem d_P_signsIn_17 : decode b_P_signsIn 17 = .ok (.iinc 1 1, 3) := by decide +kernel
theorem d_P_signsIn_20 : decode b_P_signsIn 20 = .ok (.iinc 2 1, 3) := by decide +kernel
theorem d_P_signsIn_23 : decode b_P_signsIn 23 = .ok (.goto (-19), 3) := by decide +kernel
theorem d_P_signsIn_26 : decode b_P_signsIn 26 = .ok (.iload_n 1, 1) := by decide +kernel
theorem d_P_signsIn_27 : decode b_P_signsIn 27 = .ok (.ireturn, 1) := by decide +kernel
theorem d_P_put_0 : decode b_P_put 0 = .ok (.iconst 0, 1) := by decide +kernel
theorem d_P_put_1 : decode b_P_put 1 = .ok (.istore_n 2, 1) := by decide +kernel
theorem d_P_put_2 : decode b_P_put 2 = .ok (.iload_n 2, 1) := by decide +kernel
theorem d_P_put_3 : decode b_P_put 3 = .ok (.iconst 4, 1) := by decide +kernel
theorem d_P_put_4 : decode b_P_put 4 = .ok (.if_icmp .ge 51, 3) := by decide +kernel
theorem d_P_put_7 : decode b_P_put 7 = .ok (.iload_n 1, 1) := by decide +kernel
theorem d_P_put_8 : decode b_P_put 8 = .ok (.iload_n 2, 1) := by decide +kernel
theorem d_P_put_9 : decode b_P_put 9 = .ok (.invokestatic 15, 3) := by decide +kernel
theorem d_P_put_12 : decode b_P_put 12 = .ok (.istore_n 3, 1) := by decide +kernel
theorem d_P_put_13 : decode b_P_put 13 = .ok (.iload_n 3, 1) := by decide +kernel
theorem d_P_put_14 : decode b_P_put 14 = .ok (.ifCond .eq 35, 3) := by decide +kernel
theorem d_P_put_17 : decode b_P_put 17 = .ok (.aload_n 0, 1) := by decide +kernel
theorem d_P_put_18 : decode b_P_put 18 = .ok (.getfield 19, 3) := by decide +kernel
theorem d_P_put_21 : decode b_P_put 21 = .ok (.aload_n 0, 1) := by decide +kernel
theorem d_P_put_22 : decode b_P_put 22 = .ok (.getfield 9, 3) := by decide +kernel
theorem d_P_put_25 : decode b_P_put 25 = .ok (.arraylength, 1) := by decide +kernel
theorem d_P_put_26 : decode b_P_put 26 = .ok (.if_icmp .ge 23, 3) := by decide +kernel
theorem d_P_put_29 : decode b_P_put 29 = .ok (.aload_n 0, 1) := by decide +kernel
theorem d_P_put_30 : decode b_P_put 30 = .ok (.getfield 9, 3) := by decide +kernel
theorem d_P_put_33 : decode b_P_put 33 = .ok (.aload_n 0, 1) := by decide +kernel
theorem d_P_put_34 : decode b_P_put 34 = .ok (.getfield 19, 3) := by decide +kernel
theorem d_P_put_37 : decode b_P_put 37 = .ok (.iload_n 3, 1) := by decide +kernel
theorem d_P_put_38 : decode b_P_put 38 = .ok (.iastore, 1) := by decide +kernel
theorem d_P_put_39 : decode b_P_put 39 = .ok (.aload_n 0, 1) := by decide +kernel
theorem d_P_put_40 : decode b_P_put 40 = .ok (.dup, 1) := by decide +kernel
theorem d_P_put_41 : decode b_P_put 41 = .ok (.getfield 19, 3) := by decide +kernel
theorem d_P_put_44 : decode b_P_put 44 = .ok (.iconst 1, 1) := by decide +kernel
theorem d_P_put_45 : decode b_P_put 45 = .ok (.iadd, 1) := by decide +kernel
theorem d_P_put_46 : decode b_P_put 46 = .ok (.putfield 19, 3) := by decide +kernel
theorem d_P_put_49 : decode b_P_put 49 = .ok (.iinc 2 1, 3) := by decide +kernel
theorem d_P_put_52 : decode b_P_put 52 = .ok (.goto (-50), 3) := by decide +kernel
theorem d_P_put_55 : decode b_P_put 55 = .ok (.return_, 1) := by decide +kernel
theorem d_P_parseInto_0 : decode b_P_parseInto 0 = .ok (.aload_n 1, 1) := by decide +kernel
theorem d_P_parseInto_1 : decode b_P_parseInto 1 = .ok (.iconst 0, 1) := by decide +kernel
theorem d_P_parseInto_2 : decode b_P_parseInto 2 = .ok (.putfield 23, 3) := by decide +kernel
theorem d_P_parseInto_5 : decode b_P_parseInto 5 = .ok (.iconst 0, 1) := by decide +kernel
theorem d_P_parseInto_6 : decode b_P_parseInto 6 = .ok (.istore_n 2, 1) := by decide +kernel
theorem d_P_parseInto_7 : decode b_P_parseInto 7 = .ok (.iconst 0, 1) := by decide +kernel
theorem d_P_parseInto_8 : decode b_P_parseInto 8 = .ok (.istore_n 3, 1) := by decide +kernel
theorem d_P_parseInto_9 : decode b_P_parseInto 9 = .ok (.iload_n 3, 1) := by decide +kernel
theorem d_P_parseInto_10 : decode b_P_parseInto 10 = .ok (.aload_n 0, 1) := by decide +kernel
theorem d_P_parseInto_11 : decode b_P_parseInto 11 = .ok (.getfield 19, 3) := by decide +kernel
theorem d_P_parseInto_14 : decode b_P_parseInto 14 = .ok (.if_icmp .ge 62, 3) := by decide +kernel
theorem d_P_parseInto_17 : decode b_P_parseInto 17 = .ok (.aload_n 0, 1) := by decide +kernel
theorem d_P_parseInto_18 : decode b_P_parseInto 18 = .ok (.getfield 9, 3) := by decide +kernel
theorem d_P_parseInto_21 : decode b_P_parseInto 21 = .ok (.iload_n 3, 1) := by decide +kernel
theorem d_P_parseInto_22 : decode b_P_parseInto 22 = .ok (.iaload, 1) := by decide +kernel
theorem d_P_parseInto_23 : decode b_P_parseInto 23 = .ok (.bipush 32, 2) := by decide +kernel
theorem d_P_parseInto_25 : decode b_P_parseInto 25 = .ok (.if_icmp .ne 26, 3) := by decide +kernel
theorem d_P_parseInto_28 : decode b_P_parseInto 28 = .ok (.iload_n 2, 1) := by decide +kernel
theorem d_P_parseInto_29 : decode b_P_parseInto 29 = .ok (.ifCond .eq 22, 3) := by decide +kernel
theorem d_P_parseInto_32 : decode b_P_parseInto 32 = .ok (.aload_n 1, 1) := by decide +kernel
theorem d_P_parseInto_33 : decode b_P_parseInto 33 = .ok (.getfield 23, 3) := by decide +kernel
theorem d_P_parseInto_36 : decode b_P_parseInto 36 = .ok (.bipush 23, 2) := by decide +kernel
theorem d_P_parseInto_38 : decode b_P_parseInto 38 = .ok (.if_icmp .ge 13, 3) := by decide +kernel
theorem d_P_parseInto_41 : decode b_P_parseInto 41 = .ok (.aload_n 1, 1) := by decide +kernel
theorem d_P_parseInto_42 : decode b_P_parseInto 42 = .ok (.iload_n 2, 1) := by decide +kernel
theorem d_P_parseInto_43 : decode b_P_parseInto 43 = .ok (.invokevirtual 26, 3) := by decide +kernel
theorem d_P_parseInto_46 : decode b_P_parseInto 46 = .ok (.iconst 0, 1) := by decide +kernel
theorem d_P_parseInto_47 : decode b_P_parseInto 47 = .ok (.istore_n 2, 1) := by decide +kernel
theorem d_P_parseInto_48 : decode b_P_parseInto 48 = .ok (.goto 22, 3) := by decide +kernel
theorem d_P_parseInto_51 : decode b_P_parseInto 51 = .ok (.iload_n 2, 1) := by decide +kernel
theorem d_P_parseInto_52 : decode b_P_parseInto 52 = .ok (.aload_n 0, 1) := by decide +kernel
theorem d_P_parseInto_53 : decode b_P_parseInto 53 = .ok (.getfield 9, 3) := by decide +kernel
theorem d_P_parseInto_56 : decode b_P_parseInto 56 = .ok (.iload_n 3, 1) := by decide +kernel
theorem d_P_parseInto_57 : decode b_P_parseInto 57 = .ok (.iaload, 1) := by decide +kernel
theorem d_P_parseInto_58 : decode b_P_parseInto 58 = .ok (.invokestatic 30, 3) := by decide +kernel
theorem d_P_parseInto_61 : decode b_P_parseInto 61 = .ok (.istore_n 2, 1) := by decide +kernel
theorem d_P_parseInto_62 : decode b_P_parseInto 62 = .ok (.iload_n 2, 1) := by decide +kernel
theorem d_P_parseInto_63 : decode b_P_parseInto 63 = .ok (.bipush (-2), 2) := by decide +kernel
theorem d_P_parseInto_65 : decode b_P_parseInto 65 = .ok (.if_icmp .ne 5, 3) := by decide +kernel
theorem d_P_parseInto_68 : decode b_P_parseInto 68 = .ok (.iload_n 3, 1) := by decide +kernel
theorem d_P_parseInto_69 : decode b_P_parseInto 69 = .ok (.ireturn, 1) := by decide +kernel
theorem d_P_parseInto_70 : decode b_P_parseInto 70 = .ok (.iinc 3 1, 3) := by decide +kernel
theorem d_P_parseInto_73 : decode b_P_parseInto 73 = .ok (.goto (-64), 3) := by decide +kernel
theorem d_P_parseInto_76 : decode b_P_parseInto 76 = .ok (.iload_n 2, 1) := by decide +kernel
theorem d_P_parseInto_77 : decode b_P_parseInto 77 = .ok (.ifCond .ne 8, 3) := by decide +kernel
theorem d_P_parseInto_80 : decode b_P_parseInto 80 = .ok (.aload_n 0, 1) := by decide +kernel
theorem d_P_parseInto_81 : decode b_P_parseInto 81 = .ok (.getfield 19, 3) := by decide +kernel
theorem d_P_parseInto_84 : decode b_P_parseInto 84 = .ok (.ireturn, 1) := by decide +kernel
theorem d_P_parseInto_85 : decode b_P_parseInto 85 = .ok (.aload_n 1, 1) := by decide +kernel
theorem d_P_parseInto_86 : decode b_P_parseInto 86 = .ok (.iload_n 2, 1) := by decide +kernel
theorem d_P_parseInto_87 : decode b_P_parseInto 87 = .ok (.invokevirtual 26, 3) := by decide +kernel
theorem d_P_parseInto_90 : decode b_P_parseInto 90 = .ok (.aload_n 1, 1) := by decide +kernel
theorem d_P_parseInto_91 : decode b_P_parseInto 91 = .ok (.invokevirtual 33, 3) := by decide +kernel
theorem d_P_parseInto_94 : decode b_P_parseInto 94 = .ok (.iconst (-1), 1) := by decide +kernel
theorem d_P_parseInto_95 : decode b_P_parseInto 95 = .ok (.ireturn, 1) := by decide +kernel
theorem d_P_grown_0 : decode b_P_grown 0 = .ok (.iload_n 1, 1) := by decide +kernel
theorem d_P_grown_1 : decode b_P_grown 1 = .ok (.bipush 45, 2) := by decide +kernel
theorem d_P_grown_3 : decode b_P_grown 3 = .ok (.if_icmp .ne 14, 3) := by decide +kernel
theorem d_P_grown_6 : decode b_P_grown 6 = .ok (.iload_n 0, 1) := by decide +kernel
theorem d_P_grown_7 : decode b_P_grown 7 = .ok (.ifCond .ne 7, 3) := by decide +kernel
theorem d_P_grown_10 : decode b_P_grown 10 = .ok (.iconst (-1), 1) := by decide +kernel
theorem d_P_grown_11 : decode b_P_grown 11 = .ok (.goto 5, 3) := by decide +kernel
theorem d_P_grown_14 : decode b_P_grown 14 = .ok (.bipush (-2), 2) := by decide +kernel
theorem d_P_grown_16 : decode b_P_grown 16 = .ok (.ireturn, 1) := by decide +kernel
theorem d_P_grown_17 : decode b_P_grown 17 = .ok (.iload_n 1, 1) := by decide +kernel
theorem d_P_grown_18 : decode b_P_grown 18 = .ok (.bipush 48, 2) := by decide +kernel
theorem d_P_grown_20 : decode b_P_grown 20 = .ok (.if_icmp .lt 14, 3) := by decide +kernel
theorem d_P_grown_23 : decode b_P_grown 23 = .ok (.iload_n 1, 1) := by decide +kernel
theorem d_P_grown_24 : decode b_P_grown 24 = .ok (.bipush 57, 2) := by decide +kernel
theorem d_P_grown_26 : decode b_P_grown 26 = .ok (.if_icmp .gt 8, 3) := by decide +kernel
theorem d_P_grown_29 : decode b_P_grown 29 = .ok (.iload_n 0, 1) := by decide +kernel
theorem d_P_grown_30 : decode b_P_grown 30 = .ok (.iconst (-1), 1) := by decide +kernel
theorem d_P_grown_31 : decode b_P_grown 31 = .ok (.if_icmp .ne 6, 3) := by decide +kernel
theorem d_P_grown_34 : decode b_P_grown 34 = .ok (.bipush (-2), 2) := by decide +kernel
theorem d_P_grown_36 : decode b_P_grown 36 = .ok (.ireturn, 1) := by decide +kernel
theorem d_P_grown_37 : decode b_P_grown 37 = .ok (.bipush 10, 2) := by decide +kernel
theorem d_P_grown_39 : decode b_P_grown 39 = .ok (.iload_n 0, 1) := by decide +kernel
theorem d_P_grown_40 : decode b_P_grown 40 = .ok (.imul, 1) := by decide +kernel
theorem d_P_grown_41 : decode b_P_grown 41 = .ok (.iload_n 1, 1) := by decide +kernel
theorem d_P_grown_42 : decode b_P_grown 42 = .ok (.iadd, 1) := by decide +kernel
theorem d_P_grown_43 : decode b_P_grown 43 = .ok (.bipush 48, 2) := by decide +kernel
theorem d_P_grown_45 : decode b_P_grown 45 = .ok (.isub, 1) := by decide +kernel
theorem d_P_grown_46 : decode b_P_grown 46 = .ok (.istore_n 2, 1) := by decide +kernel
theorem d_P_grown_47 : decode b_P_grown 47 = .ok (.iload_n 2, 1) := by decide +kernel
theorem d_P_grown_48 : decode b_P_grown 48 = .ok (.iconst 1, 1) := by decide +kernel
theorem d_P_grown_49 : decode b_P_grown 49 = .ok (.if_icmp .lt 14, 3) := by decide +kernel
theorem d_P_grown_52 : decode b_P_grown 52 = .ok (.iload_n 2, 1) := by decide +kernel
theorem d_P_grown_53 : decode b_P_grown 53 = .ok (.sipush 500, 3) := by decide +kernel
theorem d_P_grown_56 : decode b_P_grown 56 = .ok (.if_icmp .gt 7, 3) := by decide +kernel
theorem d_P_grown_59 : decode b_P_grown 59 = .ok (.iload_n 2, 1) := by decide +kernel
theorem d_P_grown_60 : decode b_P_grown 60 = .ok (.goto 5, 3) := by decide +kernel
theorem d_P_grown_63 : decode b_P_grown 63 = .ok (.bipush (-2), 2) := by decide +kernel
theorem d_P_grown_65 : decode b_P_grown 65 = .ok (.ireturn, 1) := by decide +kernel
theorem d_S_init_0 : decode b_S_init 0 = .ok (.aload_n 0, 1) := by decide +kernel
theorem d_S_init_1 : decode b_S_init 1 = .ok (.invokespecial 3, 3) := by decide +kernel
theorem d_S_init_4 : decode b_S_init 4 = .ok (.aload_n 0, 1) := by decide +kernel
theorem d_S_init_5 : decode b_S_init 5 = .ok (.bipush 24, 2) := by decide +kernel
theorem d_S_init_7 : decode b_S_init 7 = .ok (.newarray .int, 2) := by decide +kernel
theorem d_S_init_9 : decode b_S_init 9 = .ok (.putfield 9, 3) := by decide +kernel
theorem d_S_init_12 : decode b_S_init 12 = .ok (.aload_n 0, 1) := by decide +kernel
theorem d_S_init_13 : decode b_S_init 13 = .ok (.bipush 24, 2) := by decide +kernel
theorem d_S_init_15 : decode b_S_init 15 = .ok (.newarray .int, 2) := by decide +kernel
theorem d_S_init_17 : decode b_S_init 17 = .ok (.putfield 15, 3) := by decide +kernel
theorem d_S_init_20 : decode b_S_init 20 = .ok (.return_, 1) := by decide +kernel
theorem d_S_has_0 : decode b_S_has 0 = .ok (.iload_n 1, 1) := by decide +kernel
theorem d_S_has_1 : decode b_S_has 1 = .ok (.ifCond .lt 15, 3) := by decide +kernel
theorem d_S_has_4 : decode b_S_has 4 = .ok (.iload_n 1, 1) := by decide +kernel
theorem d_S_has_5 : decode b_S_has 5 = .ok (.aload_n 0, 1) := by decide +kernel
theorem d_S_has_6 : decode b_S_has 6 = .ok (.getfield 18, 3) := by decide +kernel
theorem d_S_has_9 : decode b_S_has 9 = .ok (.if_icmp .ge 7, 3) := by decide +kernel
theorem d_S_has_12 : decode b_S_has 12 = .ok (.iconst 1, 1) := by decide +kernel
theorem d_S_has_13 : decode b_S_has 13 = .ok (.goto 4, 3) := by decide +kernel
theorem d_S_has_16 : decode b_S_has 16 = .ok (.iconst 0, 1) := by decide +kernel
theorem d_S_has_17 : decode b_S_has 17 = .ok (.ireturn, 1) := by decide +kernel
theorem d_S_widthAt_0 : decode b_S_widthAt 0 = .ok (.aload_n 0, 1) := by decide +kernel
theorem d_S_widthAt_1 : decode b_S_widthAt 1 = .ok (.iload_n 1, 1) := by decide +kernel
theorem d_S_widthAt_2 : decode b_S_widthAt 2 = .ok (.invokevirtual 22, 3) := by decide +kernel
theorem d_S_widthAt_5 : decode b_S_widthAt 5 = .ok (.ifCond .eq 12, 3) := by decide +kernel
theorem d_S_widthAt_8 : decode b_S_widthAt 8 = .ok (.aload_n 0, 1) := by decide +kernel
theorem d_S_widthAt_9 : decode b_S_widthAt 9 = .ok (.getfield 9, 3) := by decide +kernel
theorem d_S_widthAt_12 : decode b_S_widthAt 12 = .ok (.iload_n 1, 1) := by decide +kernel
theorem d_S_widthAt_13 : decode b_S_widthAt 13 = .ok (.iaload, 1) := by decide +kernel
theorem d_S_widthAt_14 : decode b_S_widthAt 14 = .ok (.goto 4, 3) := by decide +kernel
theorem d_S_widthAt_17 : decode b_S_widthAt 17 = .ok (.iconst (-1), 1) := by decide +kernel
theorem d_S_widthAt_18 : decode b_S_widthAt 18 = .ok (.ireturn, 1) := by decide +kernel
theorem d_S_evenAt_0 : decode b_S_evenAt 0 = .ok (.aload_n 0, 1) := by decide +kernel
theorem d_S_evenAt_1 : decode b_S_evenAt 1 = .ok (.iload_n 1, 1) := by decide +kernel
theorem d_S_evenAt_2 : decode b_S_evenAt 2 = .ok (.invokevirtual 22, 3) := by decide +kernel
theorem d_S_evenAt_5 : decode b_S_evenAt 5 = .ok (.ifCond .eq 12, 3) := by decide +kernel
theorem d_S_evenAt_8 : decode b_S_evenAt 8 = .ok (.aload_n 0, 1) := by decide +kernel
theorem d_S_evenAt_9 : decode b_S_evenAt 9 = .ok (.getfield 15, 3) := by decide +kernel
theorem d_S_evenAt_12 : decode b_S_evenAt 12 = .ok (.iload_n 1, 1) := by decide +kernel
theorem d_S_evenAt_13 : decode b_S_evenAt 13 = .ok (.iaload, 1) := by decide +kernel
theorem d_S_evenAt_14 : decode b_S_evenAt 14 = .ok (.goto 4, 3) := by decide +kernel
theorem d_S_evenAt_17 : decode b_S_evenAt 17 = .ok (.iconst (-1), 1) := by decide +kernel
theorem d_S_evenAt_18 : decode b_S_evenAt 18 = .ok (.ireturn, 1) := by decide +kernel
theorem d_S_add_0 : decode b_S_add 0 = .ok (.aload_n 0, 1) := by decide +kernel
theorem d_S_add_1 : decode b_S_add 1 = .ok (.getfield 18, 3) := by decide +kernel
theorem d_S_add_4 : decode b_S_add 4 = .ok (.aload_n 0, 1) := by decide +kernel
theorem d_S_add_5 : decode b_S_add 5 = .ok (.getfield 9, 3) := by decide +kernel
theorem d_S_add_8 : decode b_S_add 8 = .ok (.arraylength, 1) := by decide +kernel
theorem d_S_add_9 : decode b_S_add 9 = .ok (.if_icmp .ge 23, 3) := by decide +kernel
theorem d_S_add_12 : decode b_S_add 12 = .ok (.aload_n 0, 1) := by decide +kernel
theorem d_S_add_13 : decode b_S_add 13 = .ok (.getfield 9, 3) := by decide +kernel
theorem d_S_add_16 : decode b_S_add 16 = .ok (.aload_n 0, 1) := by decide +kernel
theorem d_S_add_17 : decode b_S_add 17 = .ok (.getfield 18, 3) := by decide +kernel
theorem d_S_add_20 : decode b_S_add 20 = .ok (.iload_n 1, 1) := by decide +kernel
theorem d_S_add_21 : decode b_S_add 21 = .ok (.iastore, 1) := by decide +kernel
theorem d_S_add_22 : decode b_S_add 22 = .ok (.aload_n 0, 1) := by decide +kernel
theorem d_S_add_23 : decode b_S_add 23 = .ok (.dup, 1) := by decide +kernel
theorem d_S_add_24 : decode b_S_add 24 = .ok (.getfield 18, 3) := by decide +kernel
theorem d_S_add_27 : decode b_S_add 27 = .ok (.iconst 1, 1) := by decide +kernel
theorem d_S_add_28 : decode b_S_add 28 = .ok (.iadd, 1) := by decide +kernel
theorem d_S_add_29 : decode b_S_add 29 = .ok (.putfield 18, 3) := by decide +kernel
theorem d_S_add_32 : decode b_S_add 32 = .ok (.return_, 1) := by decide +kernel
theorem d_S_copyWithGap_0 : decode b_S_copyWithGap 0 = .ok (.aload_n 0, 1) := by decide +kernel
theorem d_S_copyWithGap_1 : decode b_S_copyWithGap 1 = .ok (.iconst 0, 1) := by decide +kernel
theorem d_S_copyWithGap_2 : decode b_S_copyWithGap 2 = .ok (.putfield 18, 3) := by decide +kernel
theorem d_S_copyWithGap_5 : decode b_S_copyWithGap 5 = .ok (.iconst 0, 1) := by decide +kernel
theorem d_S_copyWithGap_6 : decode b_S_copyWithGap 6 = .ok (.istore_n 3, 1) := by decide +kernel
theorem d_S_copyWithGap_7 : decode b_S_copyWithGap 7 = .ok (.iload_n 3, 1) := by decide +kernel
theorem d_S_copyWithGap_8 : decode b_S_copyWithGap 8 = .ok (.aload_n 1, 1) := by decide +kernel
theorem d_S_copyWithGap_9 : decode b_S_copyWithGap 9 = .ok (.getfield 18, 3) := by decide +kernel
theorem d_S_copyWithGap_12 : decode b_S_copyWithGap 12 = .ok (.if_icmp .ge 28, 3) := by decide +kernel
theorem d_S_copyWithGap_15 : decode b_S_copyWithGap 15 = .ok (.iload_n 3, 1) := by decide +kernel
theorem d_S_copyWithGap_16 : decode b_S_copyWithGap 16 = .ok (.iload_n 2, 1) := by decide +kernel
theorem d_S_copyWithGap_17 : decode b_S_copyWithGap 17 = .ok (.if_icmp .ne 8, 3) := by decide +kernel
theorem d_S_copyWithGap_20 : decode b_S_copyWithGap 20 = .ok (.aload_n 0, 1) := by decide +kernel
theorem d_S_copyWithGap_21 : decode b_S_copyWithGap 21 = .ok (.iconst (-1), 1) := by decide +kernel
theorem d_S_copyWithGap_22 : decode b_S_copyWithGap 22 = .ok (.invokevirtual 26, 3) := by decide +kernel
theorem d_S_copyWithGap_25 : decode b_S_copyWithGap 25 = .ok (.aload_n 0, 1) := by decide +kernel
theorem d_S_copyWithGap_26 : decode b_S_copyWithGap 26 = .ok (.aload_n 1, 1) := by decide +kernel
theorem d_S_copyWithGap_27 : decode b_S_copyWithGap 27 = .ok (.iload_n 3, 1) := by decide +kernel
theorem d_S_copyWithGap_28 : decode b_S_copyWithGap 28 = .ok (.invokevirtual 30, 3) := by decide +kernel
theorem d_S_copyWithGap_31 : decode b_S_copyWithGap 31 = .ok (.invokevirtual 26, 3) := by decide +kernel
theorem d_S_copyWithGap_34 : decode b_S_copyWithGap 34 = .ok (.iinc 3 1, 3) := by decide +kernel
theorem d_S_copyWithGap_37 : decode b_S_copyWithGap 37 = .ok (.goto (-30), 3) := by decide +kernel
theorem d_S_copyWithGap_40 : decode b_S_copyWithGap 40 = .ok (.iload_n 2, 1) := by decide +kernel
theorem d_S_copyWithGap_41 : decode b_S_copyWithGap 41 = .ok (.aload_n 1, 1) := by decide +kernel
theorem d_S_copyWithGap_42 : decode b_S_copyWithGap 42 = .ok (.getfield 18, 3) := by decide +kernel
theorem d_S_copyWithGap_45 : decode b_S_copyWithGap 45 = .ok (.if_icmp .ne 8, 3) := by decide +kernel
theorem d_S_copyWithGap_48 : decode b_S_copyWithGap 48 = .ok (.aload_n 0, 1) := by decide +kernel
theorem d_S_copyWithGap_49 : decode b_S_copyWithGap 49 = .ok (.iconst (-1), 1) := by decide +kernel
theorem d_S_copyWithGap_50 : decode b_S_copyWithGap 50 = .ok (.invokevirtual 26, 3) := by decide +kernel
theorem d_S_copyWithGap_53 : decode b_S_copyWithGap 53 = .ok (.aload_n 0, 1) := by decide +kernel
theorem d_S_copyWithGap_54 : decode b_S_copyWithGap 54 = .ok (.invokevirtual 34, 3) := by decide +kernel
theorem d_S_copyWithGap_57 : decode b_S_copyWithGap 57 = .ok (.return_, 1) := by decide +kernel
theorem d_S_makeEven_0 : decode b_S_makeEven 0 = .ok (.iconst 0, 1) := by decide +kernel
theorem d_S_makeEven_1 : decode b_S_makeEven 1 = .ok (.istore_n 1, 1) := by decide +kernel
theorem d_S_makeEven_2 : decode b_S_makeEven 2 = .ok (.iload_n 1, 1) := by decide +kernel
theorem d_S_makeEven_3 : decode b_S_makeEven 3 = .ok (.aload_n 0, 1) := by decide +kernel
theorem d_S_makeEven_4 : decode b_S_makeEven 4 = .ok (.getfield 18, 3) := by decide +kernel
theorem d_S_makeEven_7 : decode b_S_makeEven 7 = .ok (.if_icmp .ge 20, 3) := by decide +kernel
theorem d_S_makeEven_10 : decode b_S_makeEven 10 = .ok (.aload_n 0, 1) := by decide +kernel
theorem d_S_makeEven_11 : decode b_S_makeEven 11 = .ok (.getfield 15, 3) := by decide +kernel
theorem d_S_makeEven_14 : decode b_S_makeEven 14 = .ok (.iload_n 1, 1) := by decide +kernel
theorem d_S_makeEven_15 : decode b_S_makeEven 15 = .ok (.aload_n 0, 1) := by decide +kernel
theorem d_S_makeEven_16 : decode b_S_makeEven 16 = .ok (.iload_n 1, 1) := by decide +kernel
theorem d_S_makeEven_17 : decode b_S_makeEven 17 = .ok (.invokevirtual 37, 3) := by decide +kernel
theorem d_S_makeEven_20 : decode b_S_makeEven 20 = .ok (.iastore, 1) := by decide +kernel
theorem d_S_makeEven_21 : decode b_S_makeEven 21 = .ok (.iinc 1 1, 3) := by decide +kernel
theorem d_S_makeEven_24 : decode b_S_makeEven 24 = .ok (.goto (-22), 3) := by decide +kernel
theorem d_S_makeEven_27 : decode b_S_makeEven 27 = .ok (.return_, 1) := by decide +kernel
theorem d_S_evenedFromWidths_0 : decode b_S_evenedFromWidths 0 = .ok (.aload_n 0, 1) := by decide +kernel
theorem d_S_evenedFromWidths_1 : decode b_S_evenedFromWidths 1 = .ok (.getfield 9, 3) := by decide +kernel
theorem d_S_evenedFromWidths_4 : decode b_S_evenedFromWidths 4 = .ok (.iload_n 1, 1) := by decide +kernel
theorem d_S_evenedFromWidths_5 : decode b_S_evenedFromWidths 5 = .ok (.iaload, 1) := by decide +kernel
theorem d_S_evenedFromWidths_6 : decode b_S_evenedFromWidths 6 = .ok (.iconst (-1), 1) := by decide +kernel
theorem d_S_evenedFromWidths_7 : decode b_S_evenedFromWidths 7 = .ok (.if_icmp .ne 5, 3) := by decide +kernel
theorem d_S_evenedFromWidths_10 : decode b_S_evenedFromWidths 10 = .ok (.iconst (-1), 1) := by decide +kernel
theorem d_S_evenedFromWidths_11 : decode b_S_evenedFromWidths 11 = .ok (.ireturn, 1) := by decide +kernel
theorem d_S_evenedFromWidths_12 : decode b_S_evenedFromWidths 12 = .ok (.iconst 0, 1) := by decide +kernel
theorem d_S_evenedFromWidths_13 : decode b_S_evenedFromWidths 13 = .ok (.istore_n 2, 1) := by decide +kernel
theorem d_S_evenedFromWidths_14 : decode b_S_evenedFromWidths 14 = .ok (.iconst 0, 1) := by decide +kernel
theorem d_S_evenedFromWidths_15 : decode b_S_evenedFromWidths 15 = .ok (.istore_n 3, 1) := by decide +kernel
theorem d_S_evenedFromWidths_16 : decode b_S_evenedFromWidths 16 = .ok (.iload_n 1, 1) := by decide +kernel
theorem d_S_evenedFromWidths_17 : decode b_S_evenedFromWidths 17 = .ok (.iconst 2, 1) := by decide +kernel
theorem d_S_evenedFromWidths_18 : decode b_S_evenedFromWidths 18 = .ok (.isub, 1) := by decide +kernel
theorem d_S_evenedFromWidths_19 : decode b_S_evenedFromWidths 19 = .ok (.istore 4, 2) := by decide +kernel
theorem d_S_evenedFromWidths_21 : decode b_S_evenedFromWidths 21 = .ok (.iload 4, 2) := by decide +kernel
theorem d_S_evenedFromWidths_23 : decode b_S_evenedFromWidths 23 = .ok (.iload_n 1, 1) := by decide +kernel
theorem d_S_evenedFromWidths_24 : decode b_S_evenedFromWidths 24 = .ok (.iconst 2, 1) := by decide +kernel
theorem d_S_evenedFromWidths_25 : decode b_S_evenedFromWidths 25 = .ok (.iadd, 1) := by decide +kernel
theorem d_S_evenedFromWidths_26 : decode b_S_evenedFromWidths 26 = .ok (.if_icmp .gt 31, 3) := by decide +kernel
theorem d_S_evenedFromWidths_29 : decode b_S_evenedFromWidths 29 = .ok (.aload_n 0, 1) := by decide +kernel
theorem d_S_evenedFromWidths_30 : decode b_S_evenedFromWidths 30 = .ok (.iload 4, 2) := by decide +kernel
theorem d_S_evenedFromWidths_32 : decode b_S_evenedFromWidths 32 = .ok (.invokevirtual 30, 3) := by decide +kernel
theorem d_S_evenedFromWidths_35 : decode b_S_evenedFromWidths 35 = .ok (.istore 5, 2) := by decide +kernel
theorem d_S_evenedFromWidths_37 : decode b_S_evenedFromWidths 37 = .ok (.iload 5, 2) := by decide +kernel
theorem d_S_evenedFromWidths_39 : decode b_S_evenedFromWidths 39 = .ok (.iconst (-1), 1) := by decide +kernel
theorem d_S_evenedFromWidths_40 : decode b_S_evenedFromWidths 40 = .ok (.if_icmp .eq 11, 3) := by decide +kernel
theorem d_S_evenedFromWidths_43 : decode b_S_evenedFromWidths 43 = .ok (.iload_n 2, 1) := by decide +kernel
theorem d_S_evenedFromWidths_44 : decode b_S_evenedFromWidths 44 = .ok (.iload 5, 2) := by decide +kernel
theorem d_S_evenedFromWidths_46 : decode b_S_evenedFromWidths 46 = .ok (.iadd, 1) := by decide +kernel
theorem d_S_evenedFromWidths_47 : decode b_S_evenedFromWidths 47 = .ok (.istore_n 2, 1) := by decide +kernel
theorem d_S_evenedFromWidths_48 : decode b_S_evenedFromWidths 48 = .ok (.iinc 3 1, 3) := by decide +kernel
theorem d_S_evenedFromWidths_51 : decode b_S_evenedFromWidths 51 = .ok (.iinc 4 1, 3) := by decide +kernel
theorem d_S_evenedFromWidths_54 : decode b_S_evenedFromWidths 54 = .ok (.goto (-33), 3) := by decide +kernel
theorem d_S_evenedFromWidths_57 : decode b_S_evenedFromWidths 57 = .ok (.iload_n 2, 1) := by decide +kernel
theorem d_S_evenedFromWidths_58 : decode b_S_evenedFromWidths 58 = .ok (.ifCond .le 25, 3) := by decide +kernel
theorem d_S_evenedFromWidths_61 : decode b_S_evenedFromWidths 61 = .ok (.sipush 200, 3) := by decide +kernel
theorem d_S_evenedFromWidths_64 : decode b_S_evenedFromWidths 64 = .ok (.bipush 100, 2) := by decide +kernel
theorem d_S_evenedFromWidths_66 : decode b_S_evenedFromWidths 66 = .ok (.aload_n 0, 1) := by decide +kernel
theorem d_S_evenedFromWidths_67 : decode b_S_evenedFromWidths 67 = .ok (.getfield 9, 3) := by decide +kernel
theorem d_S_evenedFromWidths_70 : decode b_S_evenedFromWidths 70 = .ok (.iload_n 1, 1) := by decide +kernel
theorem d_S_evenedFromWidths_71 : decode b_S_evenedFromWidths 71 = .ok (.iaload, 1) := by decide +kernel
theorem d_S_evenedFromWidths_72 : decode b_S_evenedFromWidths 72 = .ok (.imul, 1) := by decide +kernel
theorem d_S_evenedFromWidths_73 : decode b_S_evenedFromWidths 73 = .ok (.iload_n 3, 1) := by decide +kernel
theorem d_S_evenedFromWidths_74 : decode b_S_evenedFromWidths 74 = .ok (.imul, 1) := by decide +kernel
theorem d_S_evenedFromWidths_75 : decode b_S_evenedFromWidths 75 = .ok (.iload_n 2, 1) := by decide +kernel
theorem d_S_evenedFromWidths_76 : decode b_S_evenedFromWidths 76 = .ok (.idiv, 1) := by decide +kernel
theorem d_S_evenedFromWidths_77 : decode b_S_evenedFromWidths 77 = .ok (.invokestatic 40, 3) := by decide +kernel
theorem d_S_evenedFromWidths_80 : decode b_S_evenedFromWidths 80 = .ok (.goto 4, 3) := by decide +kernel
theorem d_S_evenedFromWidths_83 : decode b_S_evenedFromWidths 83 = .ok (.iconst (-1), 1) := by decide +kernel
theorem d_S_evenedFromWidths_84 : decode b_S_evenedFromWidths 84 = .ok (.ireturn, 1) := by decide +kernel
theorem d_S_textLength_0 : decode b_S_textLength 0 = .ok (.aload_n 0, 1) := by decide +kernel
theorem d_S_textLength_1 : decode b_S_textLength 1 = .ok (.getfield 18, 3) := by decide +kernel
theorem d_S_textLength_4 : decode b_S_textLength 4 = .ok (.iconst 1, 1) := by decide +kernel
theorem d_S_textLength_5 : decode b_S_textLength 5 = .ok (.isub, 1) := by decide +kernel
theorem d_S_textLength_6 : decode b_S_textLength 6 = .ok (.istore_n 1, 1) := by decide +kernel
theorem d_S_textLength_7 : decode b_S_textLength 7 = .ok (.iconst 0, 1) := by decide +kernel
theorem d_S_textLength_8 : decode b_S_textLength 8 = .ok (.istore_n 2, 1) := by decide +kernel
theorem d_S_textLength_9 : decode b_S_textLength 9 = .ok (.iload_n 2, 1) := by decide +kernel
theorem d_S_textLength_10 : decode b_S_textLength 10 = .ok (.aload_n 0, 1) := by decide +kernel
theorem d_S_textLength_11 : decode b_S_textLength 11 = .ok (.getfield 18, 3) := by decide +kernel
theorem d_S_textLength_14 : decode b_S_textLength 14 = .ok (.if_icmp .ge 21, 3) := by decide +kernel
theorem d_S_textLength_17 : decode b_S_textLength 17 = .ok (.iload_n 1, 1) := by decide +kernel
theorem d_S_textLength_18 : decode b_S_textLength 18 = .ok (.aload_n 0, 1) := by decide +kernel
theorem d_S_textLength_19 : decode b_S_textLength 19 = .ok (.getfield 9, 3) := by decide +kernel
theorem d_S_textLength_22 : decode b_S_textLength 22 = .ok (.iload_n 2, 1) := by decide +kernel
theorem d_S_textLength_23 : decode b_S_textLength 23 = .ok (.iaload, 1) := by decide +kernel
theorem d_S_textLength_24 : decode b_S_textLength 24 = .ok (.invokestatic 46, 3) := by decide +kernel
theorem d_S_textLength_27 : decode b_S_textLength 27 = .ok (.iadd, 1) := by decide +kernel
theorem d_S_textLength_28 : decode b_S_textLength 28 = .ok (.istore_n 1, 1) := by decide +kernel
theorem d_S_textLength_29 : decode b_S_textLength 29 = .ok (.iinc 2 1, 3) := by decide +kernel
theorem d_S_textLength_32 : decode b_S_textLength 32 = .ok (.goto (-23), 3) := by decide +kernel
theorem d_S_textLength_35 : decode b_S_textLength 35 = .ok (.iload_n 1, 1) := by decide +kernel
theorem d_S_textLength_36 : decode b_S_textLength 36 = .ok (.ireturn, 1) := by decide +kernel
theorem d_S_textSign_0 : decode b_S_textSign 0 = .ok (.iload_n 1, 1) := by decide +kernel
theorem d_S_textSign_1 : decode b_S_textSign 1 = .ok (.istore_n 2, 1) := by decide +kernel
theorem d_S_textSign_2 : decode b_S_textSign 2 = .ok (.iconst 0, 1) := by decide +kernel
theorem d_S_textSign_3 : decode b_S_textSign 3 = .ok (.istore_n 3, 1) := by decide +kernel
theorem d_S_textSign_4 : decode b_S_textSign 4 = .ok (.iload_n 3, 1) := by decide +kernel
theorem d_S_textSign_5 : decode b_S_textSign 5 = .ok (.aload_n 0, 1) := by decide +kernel
theorem d_S_textSign_6 : decode b_S_textSign 6 = .ok (.getfield 18, 3) := by decide +kernel
theorem d_S_textSign_9 : decode b_S_textSign 9 = .ok (.if_icmp .ge 57, 3) := by decide +kernel
theorem d_S_textSign_12 : decode b_S_textSign 12 = .ok (.aload_n 0, 1) := by decide +kernel
theorem d_S_textSign_13 : decode b_S_textSign 13 = .ok (.getfield 9, 3) := by decide +kernel
theorem d_S_textSign_16 : decode b_S_textSign 16 = .ok (.iload_n 3, 1) := by decide +kernel
theorem d_S_textSign_17 : decode b_S_textSign 17 = .ok (.iaload, 1) := by decide +kernel
theorem d_S_textSign_18 : decode b_S_textSign 18 = .ok (.invokestatic 46, 3) := by decide +kernel
theorem d_S_textSign_21 : decode b_S_textSign 21 = .ok (.istore 4, 2) := by decide +kernel
theorem d_S_textSign_23 : decode b_S_textSign 23 = .ok (.iload_n 2, 1) := by decide +kernel
theorem d_S_textSign_24 : decode b_S_textSign 24 = .ok (.iload 4, 2) := by decide +kernel
theorem d_S_textSign_26 : decode b_S_textSign 26 = .ok (.if_icmp .ge 19, 3) := by decide +kernel
theorem d_S_textSign_29 : decode b_S_textSign 29 = .ok (.aload_n 0, 1) := by decide +kernel
theorem d_S_textSign_30 : decode b_S_textSign 30 = .ok (.getfield 9, 3) := by decide +kernel
theorem d_S_textSign_33 : decode b_S_textSign 33 = .ok (.iload_n 3, 1) := by decide +kernel
theorem d_S_textSign_34 : decode b_S_textSign 34 = .ok (.iaload, 1) := by decide +kernel
theorem d_S_textSign_35 : decode b_S_textSign 35 = .ok (.iload 4, 2) := by decide +kernel
theorem d_S_textSign_37 : decode b_S_textSign 37 = .ok (.iconst 1, 1) := by decide +kernel
theorem d_S_textSign_38 : decode b_S_textSign 38 = .ok (.isub, 1) := by decide +kernel
theorem d_S_textSign_39 : decode b_S_textSign 39 = .ok (.iload_n 2, 1) := by decide +kernel
theorem d_S_textSign_40 : decode b_S_textSign 40 = .ok (.isub, 1) := by decide +kernel
theorem d_S_textSign_41 : decode b_S_textSign 41 = .ok (.invokestatic 49, 3) := by decide +kernel
theorem d_S_textSign_44 : decode b_S_textSign 44 = .ok (.ireturn, 1) := by decide +kernel
theorem d_S_textSign_45 : decode b_S_textSign 45 = .ok (.iload_n 2, 1) := by decide +kernel
theorem d_S_textSign_46 : decode b_S_textSign 46 = .ok (.iload 4, 2) := by decide +kernel
theorem d_S_textSign_48 : decode b_S_textSign 48 = .ok (.isub, 1) := by decide +kernel
theorem d_S_textSign_49 : decode b_S_textSign 49 = .ok (.istore_n 2, 1) := by decide +kernel
theorem d_S_textSign_50 : decode b_S_textSign 50 = .ok (.iload_n 2, 1) := by decide +kernel
theorem d_S_textSign_51 : decode b_S_textSign 51 = .ok (.ifCond .ne 6, 3) := by decide +kernel
theorem d_S_textSign_54 : decode b_S_textSign 54 = .ok (.bipush 32, 2) := by decide +kernel
theorem d_S_textSign_56 : decode b_S_textSign 56 = .ok (.ireturn, 1) := by decide +kernel
theorem d_S_textSign_57 : decode b_S_textSign 57 = .ok (.iinc 2 (-1), 3) := by decide +kernel
theorem d_S_textSign_60 : decode b_S_textSign 60 = .ok (.iinc 3 1, 3) := by decide +kernel
theorem d_S_textSign_63 : decode b_S_textSign 63 = .ok (.goto (-59), 3) := by decide +kernel
theorem d_S_textSign_66 : decode b_S_textSign 66 = .ok (.iconst (-1), 1) := by decide +kernel
theorem d_S_textSign_67 : decode b_S_textSign 67 = .ok (.ireturn, 1) := by decide +kernel
theorem d_S_signsFor_0 : decode b_S_signsFor 0 = .ok (.iload_n 0, 1) := by decide +kernel
theorem d_S_signsFor_1 : decode b_S_signsFor 1 = .ok (.bipush 10, 2) := by decide +kernel
theorem d_S_signsFor_3 : decode b_S_signsFor 3 = .ok (.if_icmp .ge 5, 3) := by decide +kernel
theorem d_S_signsFor_6 : decode b_S_signsFor 6 = .ok (.iconst 1, 1) := by decide +kernel
theorem d_S_signsFor_7 : decode b_S_signsFor 7 = .ok (.ireturn, 1) := by decide +kernel
theorem d_S_signsFor_8 : decode b_S_signsFor 8 = .ok (.iload_n 0, 1) := by decide +kernel
theorem d_S_signsFor_9 : decode b_S_signsFor 9 = .ok (.bipush 100, 2) := by decide +kernel
theorem d_S_signsFor_11 : decode b_S_signsFor 11 = .ok (.if_icmp .ge 7, 3) := by decide +kernel
theorem d_S_signsFor_14 : decode b_S_signsFor 14 = .ok (.iconst 2, 1) := by decide +kernel
theorem d_S_signsFor_15 : decode b_S_signsFor 15 = .ok (.goto 4, 3) := by decide +kernel
theorem d_S_signsFor_18 : decode b_S_signsFor 18 = .ok (.iconst 3, 1) := by decide +kernel
theorem d_S_signsFor_19 : decode b_S_signsFor 19 = .ok (.ireturn, 1) := by decide +kernel
theorem d_S_signFor_0 : decode b_S_signFor 0 = .ok (.iload_n 0, 1) := by decide +kernel
theorem d_S_signFor_1 : decode b_S_signFor 1 = .ok (.iconst (-1), 1) := by decide +kernel
theorem d_S_signFor_2 : decode b_S_signFor 2 = .ok (.if_icmp .ne 6, 3) := by decide +kernel
theorem d_S_signFor_5 : decode b_S_signFor 5 = .ok (.bipush 45, 2) := by decide +kernel
theorem d_S_signFor_7 : decode b_S_signFor 7 = .ok (.ireturn, 1) := by decide +kernel
theorem d_S_signFor_8 : decode b_S_signFor 8 = .ok (.iload_n 0, 1) := by decide +kernel
theorem d_S_signFor_9 : decode b_S_signFor 9 = .ok (.istore_n 2, 1) := by decide +kernel
theorem d_S_signFor_10 : decode b_S_signFor 10 = .ok (.iconst 0, 1) := by decide +kernel
theorem d_S_signFor_11 : decode b_S_signFor 11 = .ok (.istore_n 3, 1) := by decide +kernel
theorem d_S_signFor_12 : decode b_S_signFor 12 = .ok (.iload_n 3, 1) := by decide +kernel
theorem d_S_signFor_13 : decode b_S_signFor 13 = .ok (.iload_n 1, 1) := by decide +kernel
theorem d_S_signFor_14 : decode b_S_signFor 14 = .ok (.if_icmp .ge 14, 3) := by decide +kernel
theorem d_S_signFor_17 : decode b_S_signFor 17 = .ok (.iload_n 2, 1) := by decide +kernel
theorem d_S_signFor_18 : decode b_S_signFor 18 = .ok (.bipush 10, 2) := by decide +kernel
theorem d_S_signFor_20 : decode b_S_signFor 20 = .ok (.idiv, 1) := by decide +kernel
theorem d_S_signFor_21 : decode b_S_signFor 21 = .ok (.istore_n 2, 1) := by decide +kernel
theorem d_S_signFor_22 : decode b_S_signFor 22 = .ok (.iinc 3 1, 3) := by decide +kernel
theorem d_S_signFor_25 : decode b_S_signFor 25 = .ok (.goto (-13), 3) := by decide +kernel
theorem d_S_signFor_28 : decode b_S_signFor 28 = .ok (.bipush 48, 2) := by decide +kernel
theorem d_S_signFor_30 : decode b_S_signFor 30 = .ok (.iload_n 2, 1) := by decide +kernel
theorem d_S_signFor_31 : decode b_S_signFor 31 = .ok (.bipush 10, 2) := by decide +kernel
theorem d_S_signFor_33 : decode b_S_signFor 33 = .ok (.irem, 1) := by decide +kernel
theorem d_S_signFor_34 : decode b_S_signFor 34 = .ok (.iadd, 1) := by decide +kernel
theorem d_S_signFor_35 : decode b_S_signFor 35 = .ok (.ireturn, 1) := by decide +kernel
