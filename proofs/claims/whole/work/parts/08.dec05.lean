theorem d_M_init_0 : decode b_M_init 0 = .ok (.aload_n 0, 1) := by decide +kernel
theorem d_M_init_1 : decode b_M_init 1 = .ok (.invokespecial 1, 3) := by decide +kernel
theorem d_M_init_4 : decode b_M_init 4 = .ok (.aload_n 0, 1) := by decide +kernel
theorem d_M_init_5 : decode b_M_init 5 = .ok (.bipush 100, 2) := by decide +kernel
theorem d_M_init_7 : decode b_M_init 7 = .ok (.newarray .int, 2) := by decide +kernel
theorem d_M_init_9 : decode b_M_init 9 = .ok (.putfield 7, 3) := by decide +kernel
theorem d_M_init_12 : decode b_M_init 12 = .ok (.aload_n 0, 1) := by decide +kernel
theorem d_M_init_13 : decode b_M_init 13 = .ok (.bipush 9, 2) := by decide +kernel
theorem d_M_init_15 : decode b_M_init 15 = .ok (.newarray .int, 2) := by decide +kernel
theorem d_M_init_17 : decode b_M_init 17 = .ok (.putfield 13, 3) := by decide +kernel
theorem d_M_init_20 : decode b_M_init 20 = .ok (.aload_n 0, 1) := by decide +kernel
theorem d_M_init_21 : decode b_M_init 21 = .ok (.sipush 216, 3) := by decide +kernel
theorem d_M_init_24 : decode b_M_init 24 = .ok (.newarray .int, 2) := by decide +kernel
theorem d_M_init_26 : decode b_M_init 26 = .ok (.putfield 16, 3) := by decide +kernel
theorem d_M_init_29 : decode b_M_init 29 = .ok (.aload_n 0, 1) := by decide +kernel
theorem d_M_init_30 : decode b_M_init 30 = .ok (.bipush 48, 2) := by decide +kernel
theorem d_M_init_32 : decode b_M_init 32 = .ok (.newarray .int, 2) := by decide +kernel
theorem d_M_init_34 : decode b_M_init 34 = .ok (.putfield 19, 3) := by decide +kernel
theorem d_M_init_37 : decode b_M_init 37 = .ok (.aload_n 0, 1) := by decide +kernel
theorem d_M_init_38 : decode b_M_init 38 = .ok (.bipush 48, 2) := by decide +kernel
theorem d_M_init_40 : decode b_M_init 40 = .ok (.newarray .int, 2) := by decide +kernel
theorem d_M_init_42 : decode b_M_init 42 = .ok (.putfield 22, 3) := by decide +kernel
theorem d_M_init_45 : decode b_M_init 45 = .ok (.aload_n 0, 1) := by decide +kernel
theorem d_M_init_46 : decode b_M_init 46 = .ok (.bipush 48, 2) := by decide +kernel
theorem d_M_init_48 : decode b_M_init 48 = .ok (.newarray .int, 2) := by decide +kernel
theorem d_M_init_50 : decode b_M_init 50 = .ok (.putfield 25, 3) := by decide +kernel
theorem d_M_init_53 : decode b_M_init 53 = .ok (.return_, 1) := by decide +kernel
theorem d_M_thrown_0 : decode b_M_thrown 0 = .ok (.aload_n 0, 1) := by decide +kernel
theorem d_M_thrown_1 : decode b_M_thrown 1 = .ok (.getfield 28, 3) := by decide +kernel
theorem d_M_thrown_4 : decode b_M_thrown 4 = .ok (.ireturn, 1) := by decide +kernel
theorem d_M_goes_0 : decode b_M_goes 0 = .ok (.aload_n 0, 1) := by decide +kernel
theorem d_M_goes_1 : decode b_M_goes 1 = .ok (.iload_n 1, 1) := by decide +kernel
theorem d_M_goes_2 : decode b_M_goes 2 = .ok (.ifCond .ne 7, 3) := by decide +kernel
theorem d_M_goes_5 : decode b_M_goes 5 = .ok (.iconst 1, 1) := by decide +kernel
theorem d_M_goes_6 : decode b_M_goes 6 = .ok (.goto 20, 3) := by decide +kernel
theorem d_M_goes_9 : decode b_M_goes 9 = .ok (.iload_n 2, 1) := by decide +kernel
theorem d_M_goes_10 : decode b_M_goes 10 = .ok (.ifCond .ne 7, 3) := by decide +kernel
theorem d_M_goes_13 : decode b_M_goes 13 = .ok (.iconst 2, 1) := by decide +kernel
theorem d_M_goes_14 : decode b_M_goes 14 = .ok (.goto 12, 3) := by decide +kernel
theorem d_M_goes_17 : decode b_M_goes 17 = .ok (.iload_n 3, 1) := by decide +kernel
theorem d_M_goes_18 : decode b_M_goes 18 = .ok (.ifCond .ne 7, 3) := by decide +kernel
theorem d_M_goes_21 : decode b_M_goes 21 = .ok (.iconst 3, 1) := by decide +kernel
theorem d_M_goes_22 : decode b_M_goes 22 = .ok (.goto 4, 3) := by decide +kernel
theorem d_M_goes_25 : decode b_M_goes 25 = .ok (.iconst 0, 1) := by decide +kernel
theorem d_M_goes_26 : decode b_M_goes 26 = .ok (.putfield 28, 3) := by decide +kernel
theorem d_M_goes_29 : decode b_M_goes 29 = .ok (.aload_n 0, 1) := by decide +kernel
theorem d_M_goes_30 : decode b_M_goes 30 = .ok (.getfield 28, 3) := by decide +kernel
theorem d_M_goes_33 : decode b_M_goes 33 = .ok (.ifCond .ne 7, 3) := by decide +kernel
theorem d_M_goes_36 : decode b_M_goes 36 = .ok (.iconst 1, 1) := by decide +kernel
theorem d_M_goes_37 : decode b_M_goes 37 = .ok (.goto 4, 3) := by decide +kernel
theorem d_M_goes_40 : decode b_M_goes 40 = .ok (.iconst 0, 1) := by decide +kernel
theorem d_M_goes_41 : decode b_M_goes 41 = .ok (.ireturn, 1) := by decide +kernel
theorem d_M_within_0 : decode b_M_within 0 = .ok (.iload_n 0, 1) := by decide +kernel
theorem d_M_within_1 : decode b_M_within 1 = .ok (.iload_n 1, 1) := by decide +kernel
theorem d_M_within_2 : decode b_M_within 2 = .ok (.if_icmp .lt 12, 3) := by decide +kernel
theorem d_M_within_5 : decode b_M_within 5 = .ok (.iload_n 0, 1) := by decide +kernel
theorem d_M_within_6 : decode b_M_within 6 = .ok (.iload_n 2, 1) := by decide +kernel
theorem d_M_within_7 : decode b_M_within 7 = .ok (.if_icmp .gt 7, 3) := by decide +kernel
theorem d_M_within_10 : decode b_M_within 10 = .ok (.iconst 1, 1) := by decide +kernel
theorem d_M_within_11 : decode b_M_within 11 = .ok (.goto 4, 3) := by decide +kernel
theorem d_M_within_14 : decode b_M_within 14 = .ok (.iconst 0, 1) := by decide +kernel
theorem d_M_within_15 : decode b_M_within 15 = .ok (.ireturn, 1) := by decide +kernel
theorem d_M_isSeries_0 : decode b_M_isSeries 0 = .ok (.iload_n 1, 1) := by decide +kernel
theorem d_M_isSeries_1 : decode b_M_isSeries 1 = .ok (.iconst 0, 1) := by decide +kernel
theorem d_M_isSeries_2 : decode b_M_isSeries 2 = .ok (.aload_n 0, 1) := by decide +kernel
theorem d_M_isSeries_3 : decode b_M_isSeries 3 = .ok (.getfield 32, 3) := by decide +kernel
theorem d_M_isSeries_6 : decode b_M_isSeries 6 = .ok (.iconst 1, 1) := by decide +kernel
theorem d_M_isSeries_7 : decode b_M_isSeries 7 = .ok (.isub, 1) := by decide +kernel
theorem d_M_isSeries_8 : decode b_M_isSeries 8 = .ok (.invokestatic 35, 3) := by decide +kernel
theorem d_M_isSeries_11 : decode b_M_isSeries 11 = .ok (.ireturn, 1) := by decide +kernel
theorem d_M_signs_0 : decode b_M_signs 0 = .ok (.iconst 0, 1) := by decide +kernel
theorem d_M_signs_1 : decode b_M_signs 1 = .ok (.istore_n 1, 1) := by decide +kernel
theorem d_M_signs_2 : decode b_M_signs 2 = .ok (.iconst 0, 1) := by decide +kernel
theorem d_M_signs_3 : decode b_M_signs 3 = .ok (.istore_n 2, 1) := by decide +kernel
theorem d_M_signs_4 : decode b_M_signs 4 = .ok (.iload_n 2, 1) := by decide +kernel
theorem d_M_signs_5 : decode b_M_signs 5 = .ok (.iconst 4, 1) := by decide +kernel
theorem d_M_signs_6 : decode b_M_signs 6 = .ok (.if_icmp .ge 30, 3) := by decide +kernel
theorem d_M_signs_9 : decode b_M_signs 9 = .ok (.iload_n 0, 1) := by decide +kernel
theorem d_M_signs_10 : decode b_M_signs 10 = .ok (.bipush 8, 2) := by decide +kernel
theorem d_M_signs_12 : decode b_M_signs 12 = .ok (.iload_n 2, 1) := by decide +kernel
theorem d_M_signs_13 : decode b_M_signs 13 = .ok (.imul, 1) := by decide +kernel
theorem d_M_signs_14 : decode b_M_signs 14 = .ok (.iushr, 1) := by decide +kernel
theorem d_M_signs_15 : decode b_M_signs 15 = .ok (.sipush 255, 3) := by decide +kernel
theorem d_M_signs_18 : decode b_M_signs 18 = .ok (.iand, 1) := by decide +kernel
theorem d_M_signs_19 : decode b_M_signs 19 = .ok (.ifCond .eq 9, 3) := by decide +kernel
theorem d_M_signs_22 : decode b_M_signs 22 = .ok (.iload_n 1, 1) := by decide +kernel
theorem d_M_signs_23 : decode b_M_signs 23 = .ok (.iconst 1, 1) := by decide +kernel
theorem d_M_signs_24 : decode b_M_signs 24 = .ok (.iadd, 1) := by decide +kernel
theorem d_M_signs_25 : decode b_M_signs 25 = .ok (.goto 4, 3) := by decide +kernel
theorem d_M_signs_28 : decode b_M_signs 28 = .ok (.iload_n 1, 1) := by decide +kernel
theorem d_M_signs_29 : decode b_M_signs 29 = .ok (.istore_n 1, 1) := by decide +kernel
theorem d_M_signs_30 : decode b_M_signs 30 = .ok (.iinc 2 1, 3) := by decide +kernel
theorem d_M_signs_33 : decode b_M_signs 33 = .ok (.goto (-29), 3) := by decide +kernel
theorem d_M_signs_36 : decode b_M_signs 36 = .ok (.iload_n 1, 1) := by decide +kernel
theorem d_M_signs_37 : decode b_M_signs 37 = .ok (.ireturn, 1) := by decide +kernel
theorem d_M_plain_0 : decode b_M_plain 0 = .ok (.iconst 1, 1) := by decide +kernel
theorem d_M_plain_1 : decode b_M_plain 1 = .ok (.istore_n 1, 1) := by decide +kernel
theorem d_M_plain_2 : decode b_M_plain 2 = .ok (.iconst 0, 1) := by decide +kernel
theorem d_M_plain_3 : decode b_M_plain 3 = .ok (.istore_n 2, 1) := by decide +kernel
theorem d_M_plain_4 : decode b_M_plain 4 = .ok (.iload_n 2, 1) := by decide +kernel
theorem d_M_plain_5 : decode b_M_plain 5 = .ok (.iconst 4, 1) := by decide +kernel
theorem d_M_plain_6 : decode b_M_plain 6 = .ok (.if_icmp .ge 45, 3) := by decide +kernel
theorem d_M_plain_9 : decode b_M_plain 9 = .ok (.iload_n 0, 1) := by decide +kernel
theorem d_M_plain_10 : decode b_M_plain 10 = .ok (.bipush 8, 2) := by decide +kernel
theorem d_M_plain_12 : decode b_M_plain 12 = .ok (.iload_n 2, 1) := by decide +kernel
theorem d_M_plain_13 : decode b_M_plain 13 = .ok (.imul, 1) := by decide +kernel
theorem d_M_plain_14 : decode b_M_plain 14 = .ok (.iushr, 1) := by decide +kernel
theorem d_M_plain_15 : decode b_M_plain 15 = .ok (.sipush 255, 3) := by decide +kernel
theorem d_M_plain_18 : decode b_M_plain 18 = .ok (.iand, 1) := by decide +kernel
theorem d_M_plain_19 : decode b_M_plain 19 = .ok (.istore_n 3, 1) := by decide +kernel
theorem d_M_plain_20 : decode b_M_plain 20 = .ok (.iload_n 1, 1) := by decide +kernel
theorem d_M_plain_21 : decode b_M_plain 21 = .ok (.ifCond .eq 22, 3) := by decide +kernel
theorem d_M_plain_24 : decode b_M_plain 24 = .ok (.iload_n 3, 1) := by decide +kernel
theorem d_M_plain_25 : decode b_M_plain 25 = .ok (.ifCond .eq 14, 3) := by decide +kernel
theorem d_M_plain_28 : decode b_M_plain 28 = .ok (.iload_n 3, 1) := by decide +kernel
theorem d_M_plain_29 : decode b_M_plain 29 = .ok (.bipush 32, 2) := by decide +kernel
theorem d_M_plain_31 : decode b_M_plain 31 = .ok (.bipush 126, 2) := by decide +kernel
theorem d_M_plain_33 : decode b_M_plain 33 = .ok (.invokestatic 35, 3) := by decide +kernel
theorem d_M_plain_36 : decode b_M_plain 36 = .ok (.ifCond .eq 7, 3) := by decide +kernel
theorem d_M_plain_39 : decode b_M_plain 39 = .ok (.iconst 1, 1) := by decide +kernel
theorem d_M_plain_40 : decode b_M_plain 40 = .ok (.goto 4, 3) := by decide +kernel
theorem d_M_plain_43 : decode b_M_plain 43 = .ok (.iconst 0, 1) := by decide +kernel
theorem d_M_plain_44 : decode b_M_plain 44 = .ok (.istore_n 1, 1) := by decide +kernel
theorem d_M_plain_45 : decode b_M_plain 45 = .ok (.iinc 2 1, 3) := by decide +kernel
theorem d_M_plain_48 : decode b_M_plain 48 = .ok (.goto (-44), 3) := by decide +kernel
theorem d_M_plain_51 : decode b_M_plain 51 = .ok (.iload_n 1, 1) := by decide +kernel
theorem d_M_plain_52 : decode b_M_plain 52 = .ok (.ireturn, 1) := by decide +kernel
theorem d_M_push_0 : decode b_M_push 0 = .ok (.iconst 0, 1) := by decide +kernel
theorem d_M_push_1 : decode b_M_push 1 = .ok (.istore_n 2, 1) := by decide +kernel
theorem d_M_push_2 : decode b_M_push 2 = .ok (.iload_n 2, 1) := by decide +kernel
theorem d_M_push_3 : decode b_M_push 3 = .ok (.iconst 4, 1) := by decide +kernel
theorem d_M_push_4 : decode b_M_push 4 = .ok (.if_icmp .ge 44, 3) := by decide +kernel
theorem d_M_push_7 : decode b_M_push 7 = .ok (.iload_n 1, 1) := by decide +kernel
theorem d_M_push_8 : decode b_M_push 8 = .ok (.bipush 8, 2) := by decide +kernel
theorem d_M_push_10 : decode b_M_push 10 = .ok (.iload_n 2, 1) := by decide +kernel
theorem d_M_push_11 : decode b_M_push 11 = .ok (.imul, 1) := by decide +kernel
theorem d_M_push_12 : decode b_M_push 12 = .ok (.iushr, 1) := by decide +kernel
theorem d_M_push_13 : decode b_M_push 13 = .ok (.sipush 255, 3) := by decide +kernel
theorem d_M_push_16 : decode b_M_push 16 = .ok (.iand, 1) := by decide +kernel
theorem d_M_push_17 : decode b_M_push 17 = .ok (.istore_n 3, 1) := by decide +kernel
theorem d_M_push_18 : decode b_M_push 18 = .ok (.iload_n 3, 1) := by decide +kernel
theorem d_M_push_19 : decode b_M_push 19 = .ok (.ifCond .eq 23, 3) := by decide +kernel
theorem d_M_push_22 : decode b_M_push 22 = .ok (.aload_n 0, 1) := by decide +kernel
theorem d_M_push_23 : decode b_M_push 23 = .ok (.getfield 7, 3) := by decide +kernel
theorem d_M_push_26 : decode b_M_push 26 = .ok (.aload_n 0, 1) := by decide +kernel
theorem d_M_push_27 : decode b_M_push 27 = .ok (.getfield 39, 3) := by decide +kernel
theorem d_M_push_30 : decode b_M_push 30 = .ok (.iload_n 3, 1) := by decide +kernel
theorem d_M_push_31 : decode b_M_push 31 = .ok (.iastore, 1) := by decide +kernel
theorem d_M_push_32 : decode b_M_push 32 = .ok (.aload_n 0, 1) := by decide +kernel
theorem d_M_push_33 : decode b_M_push 33 = .ok (.dup, 1) := by decide +kernel
theorem d_M_push_34 : decode b_M_push 34 = .ok (.getfield 39, 3) := by decide +kernel
theorem d_M_push_37 : decode b_M_push 37 = .ok (.iconst 1, 1) := by decide +kernel
theorem d_M_push_38 : decode b_M_push 38 = .ok (.iadd, 1) := by decide +kernel
theorem d_M_push_39 : decode b_M_push 39 = .ok (.putfield 39, 3) := by decide +kernel
theorem d_M_push_42 : decode b_M_push 42 = .ok (.iinc 2 1, 3) := by decide +kernel
theorem d_M_push_45 : decode b_M_push 45 = .ok (.goto (-43), 3) := by decide +kernel
theorem d_M_push_48 : decode b_M_push 48 = .ok (.return_, 1) := by decide +kernel
theorem d_M_unit_0 : decode b_M_unit 0 = .ok (.aload_n 0, 1) := by decide +kernel
theorem d_M_unit_1 : decode b_M_unit 1 = .ok (.iload_n 1, 1) := by decide +kernel
theorem d_M_unit_2 : decode b_M_unit 2 = .ok (.invokestatic 42, 3) := by decide +kernel
theorem d_M_unit_5 : decode b_M_unit 5 = .ok (.ifCond .eq 14, 3) := by decide +kernel
theorem d_M_unit_8 : decode b_M_unit 8 = .ok (.iload_n 2, 1) := by decide +kernel
theorem d_M_unit_9 : decode b_M_unit 9 = .ok (.invokestatic 42, 3) := by decide +kernel
theorem d_M_unit_12 : decode b_M_unit 12 = .ok (.ifCond .eq 7, 3) := by decide +kernel
theorem d_M_unit_15 : decode b_M_unit 15 = .ok (.iconst 1, 1) := by decide +kernel
theorem d_M_unit_16 : decode b_M_unit 16 = .ok (.goto 4, 3) := by decide +kernel
theorem d_M_unit_19 : decode b_M_unit 19 = .ok (.iconst 0, 1) := by decide +kernel
theorem d_M_unit_20 : decode b_M_unit 20 = .ok (.aload_n 0, 1) := by decide +kernel
theorem d_M_unit_21 : decode b_M_unit 21 = .ok (.getfield 39, 3) := by decide +kernel
theorem d_M_unit_24 : decode b_M_unit 24 = .ok (.iload_n 1, 1) := by decide +kernel
theorem d_M_unit_25 : decode b_M_unit 25 = .ok (.invokestatic 46, 3) := by decide +kernel
theorem d_M_unit_28 : decode b_M_unit 28 = .ok (.iadd, 1) := by decide +kernel
theorem d_M_unit_29 : decode b_M_unit 29 = .ok (.iload_n 2, 1) := by decide +kernel
theorem d_M_unit_30 : decode b_M_unit 30 = .ok (.invokestatic 46, 3) := by decide +kernel
theorem d_M_unit_33 : decode b_M_unit 33 = .ok (.iadd, 1) := by decide +kernel
theorem d_M_unit_34 : decode b_M_unit 34 = .ok (.bipush 100, 2) := by decide +kernel
theorem d_M_unit_36 : decode b_M_unit 36 = .ok (.if_icmp .gt 7, 3) := by decide +kernel
theorem d_M_unit_39 : decode b_M_unit 39 = .ok (.iconst 1, 1) := by decide +kernel
theorem d_M_unit_40 : decode b_M_unit 40 = .ok (.goto 4, 3) := by decide +kernel
theorem d_M_unit_43 : decode b_M_unit 43 = .ok (.iconst 0, 1) := by decide +kernel
theorem d_M_unit_44 : decode b_M_unit 44 = .ok (.iconst 1, 1) := by decide +kernel
theorem d_M_unit_45 : decode b_M_unit 45 = .ok (.invokevirtual 50, 3) := by decide +kernel
theorem d_M_unit_48 : decode b_M_unit 48 = .ok (.ifCond .ne 5, 3) := by decide +kernel
theorem d_M_unit_51 : decode b_M_unit 51 = .ok (.iconst 0, 1) := by decide +kernel
theorem d_M_unit_52 : decode b_M_unit 52 = .ok (.ireturn, 1) := by decide +kernel
theorem d_M_unit_53 : decode b_M_unit 53 = .ok (.aload_n 0, 1) := by decide +kernel
theorem d_M_unit_54 : decode b_M_unit 54 = .ok (.iload_n 1, 1) := by decide +kernel
theorem d_M_unit_55 : decode b_M_unit 55 = .ok (.invokevirtual 54, 3) := by decide +kernel
theorem d_M_unit_58 : decode b_M_unit 58 = .ok (.aload_n 0, 1) := by decide +kernel
theorem d_M_unit_59 : decode b_M_unit 59 = .ok (.iload_n 2, 1) := by decide +kernel
theorem d_M_unit_60 : decode b_M_unit 60 = .ok (.invokevirtual 54, 3) := by decide +kernel
theorem d_M_unit_63 : decode b_M_unit 63 = .ok (.aload_n 0, 1) := by decide +kernel
theorem d_M_unit_64 : decode b_M_unit 64 = .ok (.getfield 39, 3) := by decide +kernel
theorem d_M_unit_67 : decode b_M_unit 67 = .ok (.ireturn, 1) := by decide +kernel
theorem d_M_fault_0 : decode b_M_fault 0 = .ok (.iconst (-1), 1) := by decide +kernel
theorem d_M_fault_1 : decode b_M_fault 1 = .ok (.istore_n 1, 1) := by decide +kernel
theorem d_M_fault_2 : decode b_M_fault 2 = .ok (.iconst 0, 1) := by decide +kernel
theorem d_M_fault_3 : decode b_M_fault 3 = .ok (.istore_n 2, 1) := by decide +kernel
theorem d_M_fault_4 : decode b_M_fault 4 = .ok (.iconst 0, 1) := by decide +kernel
theorem d_M_fault_5 : decode b_M_fault 5 = .ok (.istore_n 3, 1) := by decide +kernel
theorem d_M_fault_6 : decode b_M_fault 6 = .ok (.iload_n 3, 1) := by decide +kernel
theorem d_M_fault_7 : decode b_M_fault 7 = .ok (.aload_n 0, 1) := by decide +kernel
theorem d_M_fault_8 : decode b_M_fault 8 = .ok (.getfield 39, 3) := by decide +kernel
theorem d_M_fault_11 : decode b_M_fault 11 = .ok (.if_icmp .ge 180, 3) := by decide +kernel
theorem d_M_fault_14 : decode b_M_fault 14 = .ok (.aload_n 0, 1) := by decide +kernel
theorem d_M_fault_15 : decode b_M_fault 15 = .ok (.getfield 7, 3) := by decide +kernel
theorem d_M_fault_18 : decode b_M_fault 18 = .ok (.iload_n 3, 1) := by decide +kernel
theorem d_M_fault_19 : decode b_M_fault 19 = .ok (.iaload, 1) := by decide +kernel
theorem d_M_fault_20 : decode b_M_fault 20 = .ok (.istore 4, 2) := by decide +kernel
theorem d_M_fault_22 : decode b_M_fault 22 = .ok (.iload 4, 2) := by decide +kernel
theorem d_M_fault_24 : decode b_M_fault 24 = .ok (.bipush 32, 2) := by decide +kernel
theorem d_M_fault_26 : decode b_M_fault 26 = .ok (.if_icmp .ne 26, 3) := by decide +kernel
theorem d_M_fault_29 : decode b_M_fault 29 = .ok (.iload_n 1, 1) := by decide +kernel
theorem d_M_fault_30 : decode b_M_fault 30 = .ok (.iconst (-1), 1) := by decide +kernel
theorem d_M_fault_31 : decode b_M_fault 31 = .ok (.if_icmp .eq 13, 3) := by decide +kernel
theorem d_M_fault_34 : decode b_M_fault 34 = .ok (.iload_n 2, 1) := by decide +kernel
theorem d_M_fault_35 : decode b_M_fault 35 = .ok (.bipush 24, 2) := by decide +kernel
theorem d_M_fault_37 : decode b_M_fault 37 = .ok (.if_icmp .ge 7, 3) := by decide +kernel
theorem d_M_fault_40 : decode b_M_fault 40 = .ok (.iconst 1, 1) := by decide +kernel
theorem d_M_fault_41 : decode b_M_fault 41 = .ok (.goto 4, 3) := by decide +kernel
theorem d_M_fault_44 : decode b_M_fault 44 = .ok (.iconst 0, 1) := by decide +kernel
theorem d_M_fault_45 : decode b_M_fault 45 = .ok (.istore 5, 2) := by decide +kernel
theorem d_M_fault_47 : decode b_M_fault 47 = .ok (.iconst (-1), 1) := by decide +kernel
theorem d_M_fault_48 : decode b_M_fault 48 = .ok (.istore_n 1, 1) := by decide +kernel
theorem d_M_fault_49 : decode b_M_fault 49 = .ok (.goto 107, 3) := by decide +kernel
theorem d_M_fault_52 : decode b_M_fault 52 = .ok (.iload_n 1, 1) := by decide +kernel
theorem d_M_fault_53 : decode b_M_fault 53 = .ok (.iconst (-1), 1) := by decide +kernel
theorem d_M_fault_54 : decode b_M_fault 54 = .ok (.if_icmp .ne 52, 3) := by decide +kernel
theorem d_M_fault_57 : decode b_M_fault 57 = .ok (.iload 4, 2) := by decide +kernel
theorem d_M_fault_59 : decode b_M_fault 59 = .ok (.bipush 45, 2) := by decide +kernel
theorem d_M_fault_61 : decode b_M_fault 61 = .ok (.if_icmp .eq 15, 3) := by decide +kernel
theorem d_M_fault_64 : decode b_M_fault 64 = .ok (.iload 4, 2) := by decide +kernel
theorem d_M_fault_66 : decode b_M_fault 66 = .ok (.bipush 49, 2) := by decide +kernel
theorem d_M_fault_68 : decode b_M_fault 68 = .ok (.bipush 57, 2) := by decide +kernel
theorem d_M_fault_70 : decode b_M_fault 70 = .ok (.invokestatic 35, 3) := by decide +kernel
theorem d_M_fault_73 : decode b_M_fault 73 = .ok (.ifCond .eq 7, 3) := by decide +kernel
theorem d_M_fault_76 : decode b_M_fault 76 = .ok (.iconst 1, 1) := by decide +kernel
theorem d_M_fault_77 : decode b_M_fault 77 = .ok (.goto 4, 3) := by decide +kernel
theorem d_M_fault_80 : decode b_M_fault 80 = .ok (.iconst 0, 1) := by decide +kernel
theorem d_M_fault_81 : decode b_M_fault 81 = .ok (.istore 5, 2) := by decide +kernel
theorem d_M_fault_83 : decode b_M_fault 83 = .ok (.iload 4, 2) := by decide +kernel
theorem d_M_fault_85 : decode b_M_fault 85 = .ok (.bipush 45, 2) := by decide +kernel
theorem d_M_fault_87 : decode b_M_fault 87 = .ok (.if_icmp .ne 7, 3) := by decide +kernel
theorem d_M_fault_90 : decode b_M_fault 90 = .ok (.iconst 0, 1) := by decide +kernel
theorem d_M_fault_91 : decode b_M_fault 91 = .ok (.goto 8, 3) := by decide +kernel
theorem d_M_fault_94 : decode b_M_fault 94 = .ok (.iload 4, 2) := by decide +kernel
theorem d_M_fault_96 : decode b_M_fault 96 = .ok (.bipush 48, 2) := by decide +kernel
theorem d_M_fault_98 : decode b_M_fault 98 = .ok (.isub, 1) := by decide +kernel
theorem d_M_fault_99 : decode b_M_fault 99 = .ok (.istore_n 1, 1) := by decide +kernel
theorem d_M_fault_100 : decode b_M_fault 100 = .ok (.iinc 2 1, 3) := by decide +kernel
theorem d_M_fault_103 : decode b_M_fault 103 = .ok (.goto 53, 3) := by decide +kernel
theorem d_M_fault_106 : decode b_M_fault 106 = .ok (.iload 4, 2) := by decide +kernel
theorem d_M_fault_108 : decode b_M_fault 108 = .ok (.bipush 48, 2) := by decide +kernel
theorem d_M_fault_110 : decode b_M_fault 110 = .ok (.bipush 57, 2) := by decide +kernel
theorem d_M_fault_112 : decode b_M_fault 112 = .ok (.invokestatic 35, 3) := by decide +kernel
theorem d_M_fault_115 : decode b_M_fault 115 = .ok (.ifCond .eq 27, 3) := by decide +kernel
theorem d_M_fault_118 : decode b_M_fault 118 = .ok (.iload_n 1, 1) := by decide +kernel
theorem d_M_fault_119 : decode b_M_fault 119 = .ok (.ifCond .le 23, 3) := by decide +kernel
theorem d_M_fault_122 : decode b_M_fault 122 = .ok (.bipush 10, 2) := by decide +kernel
theorem d_M_fault_124 : decode b_M_fault 124 = .ok (.iload_n 1, 1) := by decide +kernel
theorem d_M_fault_125 : decode b_M_fault 125 = .ok (.imul, 1) := by decide +kernel
theorem d_M_fault_126 : decode b_M_fault 126 = .ok (.iload 4, 2) := by decide +kernel
theorem d_M_fault_128 : decode b_M_fault 128 = .ok (.iadd, 1) := by decide +kernel
theorem d_M_fault_129 : decode b_M_fault 129 = .ok (.bipush 48, 2) := by decide +kernel
theorem d_M_fault_131 : decode b_M_fault 131 = .ok (.isub, 1) := by decide +kernel
theorem d_M_fault_132 : decode b_M_fault 132 = .ok (.sipush 500, 3) := by decide +kernel
theorem d_M_fault_135 : decode b_M_fault 135 = .ok (.if_icmp .gt 7, 3) := by decide +kernel
theorem d_M_fault_138 : decode b_M_fault 138 = .ok (.iconst 1, 1) := by decide +kernel
theorem d_M_fault_139 : decode b_M_fault 139 = .ok (.goto 4, 3) := by decide +kernel
theorem d_M_fault_142 : decode b_M_fault 142 = .ok (.iconst 0, 1) := by decide +kernel
theorem d_M_fault_143 : decode b_M_fault 143 = .ok (.istore 5, 2) := by decide +kernel
theorem d_M_fault_145 : decode b_M_fault 145 = .ok (.bipush 10, 2) := by decide +kernel
theorem d_M_fault_147 : decode b_M_fault 147 = .ok (.iload_n 1, 1) := by decide +kernel
theorem d_M_fault_148 : decode b_M_fault 148 = .ok (.imul, 1) := by decide +kernel
theorem d_M_fault_149 : decode b_M_fault 149 = .ok (.iload 4, 2) := by decide +kernel
theorem d_M_fault_151 : decode b_M_fault 151 = .ok (.iadd, 1) := by decide +kernel
theorem d_M_fault_152 : decode b_M_fault 152 = .ok (.bipush 48, 2) := by decide +kernel
theorem d_M_fault_154 : decode b_M_fault 154 = .ok (.isub, 1) := by decide +kernel
theorem d_M_fault_155 : decode b_M_fault 155 = .ok (.istore_n 1, 1) := by decide +kernel
theorem d_M_fault_156 : decode b_M_fault 156 = .ok (.iload 5, 2) := by decide +kernel
theorem d_M_fault_158 : decode b_M_fault 158 = .ok (.ifCond .ne 5, 3) := by decide +kernel
theorem d_M_fault_161 : decode b_M_fault 161 = .ok (.iload_n 3, 1) := by decide +kernel
theorem d_M_fault_162 : decode b_M_fault 162 = .ok (.ireturn, 1) := by decide +kernel
theorem d_M_fault_163 : decode b_M_fault 163 = .ok (.iload_n 1, 1) := by decide +kernel
theorem d_M_fault_164 : decode b_M_fault 164 = .ok (.iconst (-1), 1) := by decide +kernel
theorem d_M_fault_165 : decode b_M_fault 165 = .ok (.if_icmp .eq 20, 3) := by decide +kernel
theorem d_M_fault_168 : decode b_M_fault 168 = .ok (.aload_n 0, 1) := by decide +kernel
theorem d_M_fault_169 : decode b_M_fault 169 = .ok (.getfield 16, 3) := by decide +kernel
theorem d_M_fault_172 : decode b_M_fault 172 = .ok (.bipush 24, 2) := by decide +kernel
theorem d_M_fault_174 : decode b_M_fault 174 = .ok (.aload_n 0, 1) := by decide +kernel
theorem d_M_fault_175 : decode b_M_fault 175 = .ok (.getfield 32, 3) := by decide +kernel
theorem d_M_fault_178 : decode b_M_fault 178 = .ok (.imul, 1) := by decide +kernel
theorem d_M_fault_179 : decode b_M_fault 179 = .ok (.iload_n 2, 1) := by decide +kernel
theorem d_M_fault_180 : decode b_M_fault 180 = .ok (.iadd, 1) := by decide +kernel
theorem d_M_fault_181 : decode b_M_fault 181 = .ok (.iconst 1, 1) := by decide +kernel
theorem d_M_fault_182 : decode b_M_fault 182 = .ok (.isub, 1) := by decide +kernel
theorem d_M_fault_183 : decode b_M_fault 183 = .ok (.iload_n 1, 1) := by decide +kernel
theorem d_M_fault_184 : decode b_M_fault 184 = .ok (.iastore, 1) := by decide +kernel
theorem d_M_fault_185 : decode b_M_fault 185 = .ok (.iinc 3 1, 3) := by decide +kernel
theorem d_M_fault_188 : decode b_M_fault 188 = .ok (.goto (-182), 3) := by decide +kernel
theorem d_M_fault_191 : decode b_M_fault 191 = .ok (.aload_n 0, 1) := by decide +kernel
theorem d_M_fault_192 : decode b_M_fault 192 = .ok (.getfield 13, 3) := by decide +kernel
theorem d_M_fault_195 : decode b_M_fault 195 = .ok (.aload_n 0, 1) := by decide +kernel
theorem d_M_fault_196 : decode b_M_fault 196 = .ok (.getfield 32, 3) := by decide +kernel
theorem d_M_fault_199 : decode b_M_fault 199 = .ok (.iload_n 2, 1) := by decide +kernel
theorem d_M_fault_200 : decode b_M_fault 200 = .ok (.iastore, 1) := by decide +kernel
theorem d_M_fault_201 : decode b_M_fault 201 = .ok (.iload_n 1, 1) := by decide +kernel
theorem d_M_fault_202 : decode b_M_fault 202 = .ok (.iconst (-1), 1) := by decide +kernel
theorem d_M_fault_203 : decode b_M_fault 203 = .ok (.if_icmp .ne 10, 3) := by decide +kernel
theorem d_M_fault_206 : decode b_M_fault 206 = .ok (.aload_n 0, 1) := by decide +kernel
theorem d_M_fault_207 : decode b_M_fault 207 = .ok (.getfield 39, 3) := by decide +kernel
theorem d_M_fault_210 : decode b_M_fault 210 = .ok (.goto 4, 3) := by decide +kernel
theorem d_M_fault_213 : decode b_M_fault 213 = .ok (.iconst (-1), 1) := by decide +kernel
theorem d_M_fault_214 : decode b_M_fault 214 = .ok (.ireturn, 1) := by decide +kernel
theorem d_M_read_0 : decode b_M_read 0 = .ok (.aload_n 0, 1) := by decide +kernel
theorem d_M_read_1 : decode b_M_read 1 = .ok (.aload_n 0, 1) := by decide +kernel
theorem d_M_read_2 : decode b_M_read 2 = .ok (.getfield 32, 3) := by decide +kernel
theorem d_M_read_5 : decode b_M_read 5 = .ok (.bipush 8, 2) := by decide +kernel
theorem d_M_read_7 : decode b_M_read 7 = .ok (.if_icmp .ge 7, 3) := by decide +kernel
theorem d_M_read_10 : decode b_M_read 10 = .ok (.iconst 1, 1) := by decide +kernel
theorem d_M_read_11 : decode b_M_read 11 = .ok (.goto 4, 3) := by decide +kernel
theorem d_M_read_14 : decode b_M_read 14 = .ok (.iconst 0, 1) := by decide +kernel
theorem d_M_read_15 : decode b_M_read 15 = .ok (.iconst 1, 1) := by decide +kernel
theorem d_M_read_16 : decode b_M_read 16 = .ok (.iconst 1, 1) := by decide +kernel
theorem d_M_read_17 : decode b_M_read 17 = .ok (.invokevirtual 50, 3) := by decide +kernel
theorem d_M_read_20 : decode b_M_read 20 = .ok (.ifCond .ne 5, 3) := by decide +kernel
theorem d_M_read_23 : decode b_M_read 23 = .ok (.iconst 0, 1) := by decide +kernel
theorem d_M_read_24 : decode b_M_read 24 = .ok (.ireturn, 1) := by decide +kernel
theorem d_M_read_25 : decode b_M_read 25 = .ok (.aload_n 0, 1) := by decide +kernel
theorem d_M_read_26 : decode b_M_read 26 = .ok (.invokevirtual 58, 3) := by decide +kernel
theorem d_M_read_29 : decode b_M_read 29 = .ok (.istore_n 1, 1) := by decide +kernel
theorem d_M_read_30 : decode b_M_read 30 = .ok (.aload_n 0, 1) := by decide +kernel
theorem d_M_read_31 : decode b_M_read 31 = .ok (.iconst 0, 1) := by decide +kernel
theorem d_M_read_32 : decode b_M_read 32 = .ok (.putfield 39, 3) := by decide +kernel
theorem d_M_read_35 : decode b_M_read 35 = .ok (.iload_n 1, 1) := by decide +kernel
theorem d_M_read_36 : decode b_M_read 36 = .ok (.iconst (-1), 1) := by decide +kernel
theorem d_M_read_37 : decode b_M_read 37 = .ok (.if_icmp .eq 7, 3) := by decide +kernel
theorem d_M_read_40 : decode b_M_read 40 = .ok (.iconst (-1), 1) := by decide +kernel
theorem d_M_read_41 : decode b_M_read 41 = .ok (.iload_n 1, 1) := by decide +kernel
theorem d_M_read_42 : decode b_M_read 42 = .ok (.isub, 1) := by decide +kernel
theorem d_M_read_43 : decode b_M_read 43 = .ok (.ireturn, 1) := by decide +kernel
theorem d_M_read_44 : decode b_M_read 44 = .ok (.aload_n 0, 1) := by decide +kernel
theorem d_M_read_45 : decode b_M_read 45 = .ok (.dup, 1) := by decide +kernel
theorem d_M_read_46 : decode b_M_read 46 = .ok (.getfield 32, 3) := by decide +kernel
theorem d_M_read_49 : decode b_M_read 49 = .ok (.iconst 1, 1) := by decide +kernel
theorem d_M_read_50 : decode b_M_read 50 = .ok (.iadd, 1) := by decide +kernel
theorem d_M_read_51 : decode b_M_read 51 = .ok (.putfield 32, 3) := by decide +kernel
theorem d_M_read_54 : decode b_M_read 54 = .ok (.aload_n 0, 1) := by decide +kernel
theorem d_M_read_55 : decode b_M_read 55 = .ok (.getfield 32, 3) := by decide +kernel
theorem d_M_read_58 : decode b_M_read 58 = .ok (.iconst 1, 1) := by decide +kernel
theorem d_M_read_59 : decode b_M_read 59 = .ok (.isub, 1) := by decide +kernel
theorem d_M_read_60 : decode b_M_read 60 = .ok (.ireturn, 1) := by decide +kernel
theorem d_M_widthOf_0 : decode b_M_widthOf 0 = .ok (.aload_n 0, 1) := by decide +kernel
theorem d_M_widthOf_1 : decode b_M_widthOf 1 = .ok (.getfield 16, 3) := by decide +kernel
theorem d_M_widthOf_4 : decode b_M_widthOf 4 = .ok (.bipush 24, 2) := by decide +kernel
theorem d_M_widthOf_6 : decode b_M_widthOf 6 = .ok (.iload_n 1, 1) := by decide +kernel
theorem d_M_widthOf_7 : decode b_M_widthOf 7 = .ok (.imul, 1) := by decide +kernel
theorem d_M_widthOf_8 : decode b_M_widthOf 8 = .ok (.iload_n 2, 1) := by decide +kernel
theorem d_M_widthOf_9 : decode b_M_widthOf 9 = .ok (.iadd, 1) := by decide +kernel
theorem d_M_widthOf_10 : decode b_M_widthOf 10 = .ok (.iaload, 1) := by decide +kernel
theorem d_M_widthOf_11 : decode b_M_widthOf 11 = .ok (.ireturn, 1) := by decide +kernel
theorem d_M_width_0 : decode b_M_width 0 = .ok (.aload_n 0, 1) := by decide +kernel
theorem d_M_width_1 : decode b_M_width 1 = .ok (.aload_n 0, 1) := by decide +kernel
theorem d_M_width_2 : decode b_M_width 2 = .ok (.iload_n 1, 1) := by decide +kernel
theorem d_M_width_3 : decode b_M_width 3 = .ok (.invokevirtual 62, 3) := by decide +kernel
theorem d_M_width_6 : decode b_M_width 6 = .ok (.ifCond .eq 35, 3) := by decide +kernel
theorem d_M_width_9 : decode b_M_width 9 = .ok (.iload_n 2, 1) := by decide +kernel
theorem d_M_width_10 : decode b_M_width 10 = .ok (.iconst (-1), 1) := by decide +kernel
theorem d_M_width_11 : decode b_M_width 11 = .ok (.aload_n 0, 1) := by decide +kernel
theorem d_M_width_12 : decode b_M_width 12 = .ok (.iload_n 1, 1) := by decide +kernel
theorem d_M_width_13 : decode b_M_width 13 = .ok (.invokevirtual 62, 3) := by decide +kernel
theorem d_M_width_16 : decode b_M_width 16 = .ok (.ifCond .eq 14, 3) := by decide +kernel
theorem d_M_width_19 : decode b_M_width 19 = .ok (.aload_n 0, 1) := by decide +kernel
theorem d_M_width_20 : decode b_M_width 20 = .ok (.getfield 13, 3) := by decide +kernel
theorem d_M_width_23 : decode b_M_width 23 = .ok (.iload_n 1, 1) := by decide +kernel
theorem d_M_width_24 : decode b_M_width 24 = .ok (.iaload, 1) := by decide +kernel
theorem d_M_width_25 : decode b_M_width 25 = .ok (.iconst 1, 1) := by decide +kernel
theorem d_M_width_26 : decode b_M_width 26 = .ok (.isub, 1) := by decide +kernel
theorem d_M_width_27 : decode b_M_width 27 = .ok (.goto 4, 3) := by decide +kernel
theorem d_M_width_30 : decode b_M_width 30 = .ok (.iconst (-1), 1) := by decide +kernel
theorem d_M_width_31 : decode b_M_width 31 = .ok (.invokestatic 35, 3) := by decide +kernel
theorem d_M_width_34 : decode b_M_width 34 = .ok (.ifCond .eq 7, 3) := by decide +kernel
theorem d_M_width_37 : decode b_M_width 37 = .ok (.iconst 1, 1) := by decide +kernel
theorem d_M_width_38 : decode b_M_width 38 = .ok (.goto 4, 3) := by decide +kernel
theorem d_M_width_41 : decode b_M_width 41 = .ok (.iconst 0, 1) := by decide +kernel
theorem d_M_width_42 : decode b_M_width 42 = .ok (.iconst 1, 1) := by decide +kernel
theorem d_M_width_43 : decode b_M_width 43 = .ok (.iconst 1, 1) := by decide +kernel
theorem d_M_width_44 : decode b_M_width 44 = .ok (.invokevirtual 50, 3) := by decide +kernel
theorem d_M_width_47 : decode b_M_width 47 = .ok (.ifCond .ne 5, 3) := by decide +kernel
theorem d_M_width_50 : decode b_M_width 50 = .ok (.iconst 0, 1) := by decide +kernel
theorem d_M_width_51 : decode b_M_width 51 = .ok (.ireturn, 1) := by decide +kernel
theorem d_M_width_52 : decode b_M_width 52 = .ok (.iload_n 2, 1) := by decide +kernel
theorem d_M_width_53 : decode b_M_width 53 = .ok (.iconst (-1), 1) := by decide +kernel
theorem d_M_width_54 : decode b_M_width 54 = .ok (.if_icmp .ne 12, 3) := by decide +kernel
theorem d_M_width_57 : decode b_M_width 57 = .ok (.aload_n 0, 1) := by decide +kernel
theorem d_M_width_58 : decode b_M_width 58 = .ok (.getfield 13, 3) := by decide +kernel
theorem d_M_width_61 : decode b_M_width 61 = .ok (.iload_n 1, 1) := by decide +kernel
theorem d_M_width_62 : decode b_M_width 62 = .ok (.iaload, 1) := by decide +kernel
theorem d_M_width_63 : decode b_M_width 63 = .ok (.goto 22, 3) := by decide +kernel
theorem d_M_width_66 : decode b_M_width 66 = .ok (.aload_n 0, 1) := by decide +kernel
theorem d_M_width_67 : decode b_M_width 67 = .ok (.iload_n 1, 1) := by decide +kernel
theorem d_M_width_68 : decode b_M_width 68 = .ok (.iload_n 2, 1) := by decide +kernel
theorem d_M_width_69 : decode b_M_width 69 = .ok (.invokevirtual 65, 3) := by decide +kernel
theorem d_M_width_72 : decode b_M_width 72 = .ok (.ifCond .ne 7, 3) := by decide +kernel
theorem d_M_width_75 : decode b_M_width 75 = .ok (.iconst (-1), 1) := by decide +kernel
theorem d_M_width_76 : decode b_M_width 76 = .ok (.goto 9, 3) := by decide +kernel
theorem d_M_width_79 : decode b_M_width 79 = .ok (.aload_n 0, 1) := by decide +kernel
theorem d_M_width_80 : decode b_M_width 80 = .ok (.iload_n 1, 1) := by decide +kernel
theorem d_M_width_81 : decode b_M_width 81 = .ok (.iload_n 2, 1) := by decide +kernel
theorem d_M_width_82 : decode b_M_width 82 = .ok (.invokevirtual 65, 3) := by decide +kernel
theorem d_M_width_85 : decode b_M_width 85 = .ok (.ireturn, 1) := by decide +kernel
theorem d_M_room_0 : decode b_M_room 0 = .ok (.aload_n 0, 1) := by decide +kernel
theorem d_M_room_1 : decode b_M_room 1 = .ok (.iload_n 1, 1) := by decide +kernel
theorem d_M_room_2 : decode b_M_room 2 = .ok (.iload_n 2, 1) := by decide +kernel
theorem d_M_room_3 : decode b_M_room 3 = .ok (.invokevirtual 65, 3) := by decide +kernel
theorem d_M_room_6 : decode b_M_room 6 = .ok (.istore_n 3, 1) := by decide +kernel
theorem d_M_room_7 : decode b_M_room 7 = .ok (.iload_n 3, 1) := by decide +kernel
theorem d_M_room_8 : decode b_M_room 8 = .ok (.bipush 99, 2) := by decide +kernel
theorem d_M_room_10 : decode b_M_room 10 = .ok (.if_icmp .le 7, 3) := by decide +kernel
theorem d_M_room_13 : decode b_M_room 13 = .ok (.iconst 3, 1) := by decide +kernel
theorem d_M_room_14 : decode b_M_room 14 = .ok (.goto 14, 3) := by decide +kernel
theorem d_M_room_17 : decode b_M_room 17 = .ok (.iload_n 3, 1) := by decide +kernel
theorem d_M_room_18 : decode b_M_room 18 = .ok (.bipush 9, 2) := by decide +kernel
theorem d_M_room_20 : decode b_M_room 20 = .ok (.if_icmp .le 7, 3) := by decide +kernel
theorem d_M_room_23 : decode b_M_room 23 = .ok (.iconst 2, 1) := by decide +kernel
theorem d_M_room_24 : decode b_M_room 24 = .ok (.goto 4, 3) := by decide +kernel
theorem d_M_room_27 : decode b_M_room 27 = .ok (.iconst 1, 1) := by decide +kernel
theorem d_M_room_28 : decode b_M_room 28 = .ok (.ireturn, 1) := by decide +kernel
theorem d_M_written_0 : decode b_M_written 0 = .ok (.iconst (-1), 1) := by decide +kernel
theorem d_M_written_1 : decode b_M_written 1 = .ok (.istore_n 3, 1) := by decide +kernel
theorem d_M_written_2 : decode b_M_written 2 = .ok (.iconst 0, 1) := by decide +kernel
theorem d_M_written_3 : decode b_M_written 3 = .ok (.istore 4, 2) := by decide +kernel
theorem d_M_written_5 : decode b_M_written 5 = .ok (.iconst 0, 1) := by decide +kernel
theorem d_M_written_6 : decode b_M_written 6 = .ok (.istore 5, 2) := by decide +kernel
theorem d_M_written_8 : decode b_M_written 8 = .ok (.iconst 0, 1) := by decide +kernel
theorem d_M_written_9 : decode b_M_written 9 = .ok (.istore 6, 2) := by decide +kernel
theorem d_M_written_11 : decode b_M_written 11 = .ok (.aload_n 0, 1) := by decide +kernel
theorem d_M_written_12 : decode b_M_written 12 = .ok (.iload_n 1, 1) := by decide +kernel
theorem d_M_written_13 : decode b_M_written 13 = .ok (.invokevirtual 62, 3) := by decide +kernel
theorem d_M_written_16 : decode b_M_written 16 = .ok (.ifCond .eq 61, 3) := by decide +kernel
theorem d_M_written_19 : decode b_M_written 19 = .ok (.iload 6, 2) := by decide +kernel
theorem d_M_written_21 : decode b_M_written 21 = .ok (.aload_n 0, 1) := by decide +kernel
theorem d_M_written_22 : decode b_M_written 22 = .ok (.getfield 13, 3) := by decide +kernel
theorem d_M_written_25 : decode b_M_written 25 = .ok (.iload_n 1, 1) := by decide +kernel
theorem d_M_written_26 : decode b_M_written 26 = .ok (.iaload, 1) := by decide +kernel
theorem d_M_written_27 : decode b_M_written 27 = .ok (.if_icmp .ge 50, 3) := by decide +kernel
theorem d_M_written_30 : decode b_M_written 30 = .ok (.iload_n 3, 1) := by decide +kernel
theorem d_M_written_31 : decode b_M_written 31 = .ok (.iconst 1, 1) := by decide +kernel
theorem d_M_written_32 : decode b_M_written 32 = .ok (.iadd, 1) := by decide +kernel
theorem d_M_written_33 : decode b_M_written 33 = .ok (.istore_n 3, 1) := by decide +kernel
theorem d_M_written_34 : decode b_M_written 34 = .ok (.iload_n 2, 1) := by decide +kernel
theorem d_M_written_35 : decode b_M_written 35 = .ok (.iload_n 3, 1) := by decide +kernel
theorem d_M_written_36 : decode b_M_written 36 = .ok (.if_icmp .lt 8, 3) := by decide +kernel
theorem d_M_written_39 : decode b_M_written 39 = .ok (.iload 6, 2) := by decide +kernel
theorem d_M_written_41 : decode b_M_written 41 = .ok (.goto 5, 3) := by decide +kernel
theorem d_M_written_44 : decode b_M_written 44 = .ok (.iload 5, 2) := by decide +kernel
theorem d_M_written_46 : decode b_M_written 46 = .ok (.istore 5, 2) := by decide +kernel
theorem d_M_written_48 : decode b_M_written 48 = .ok (.iload_n 2, 1) := by decide +kernel
theorem d_M_written_49 : decode b_M_written 49 = .ok (.iload_n 3, 1) := by decide +kernel
theorem d_M_written_50 : decode b_M_written 50 = .ok (.if_icmp .lt 7, 3) := by decide +kernel
theorem d_M_written_53 : decode b_M_written 53 = .ok (.iload_n 3, 1) := by decide +kernel
theorem d_M_written_54 : decode b_M_written 54 = .ok (.goto 5, 3) := by decide +kernel
theorem d_M_written_57 : decode b_M_written 57 = .ok (.iload 4, 2) := by decide +kernel
theorem d_M_written_59 : decode b_M_written 59 = .ok (.istore 4, 2) := by decide +kernel
theorem d_M_written_61 : decode b_M_written 61 = .ok (.iload_n 3, 1) := by decide +kernel
theorem d_M_written_62 : decode b_M_written 62 = .ok (.aload_n 0, 1) := by decide +kernel
theorem d_M_written_63 : decode b_M_written 63 = .ok (.iload_n 1, 1) := by decide +kernel
theorem d_M_written_64 : decode b_M_written 64 = .ok (.iload 6, 2) := by decide +kernel
theorem d_M_written_66 : decode b_M_written 66 = .ok (.invokevirtual 69, 3) := by decide +kernel
theorem d_M_written_69 : decode b_M_written 69 = .ok (.iadd, 1) := by decide +kernel
theorem d_M_written_70 : decode b_M_written 70 = .ok (.istore_n 3, 1) := by decide +kernel
theorem d_M_written_71 : decode b_M_written 71 = .ok (.iinc 6 1, 3) := by decide +kernel
theorem d_M_written_74 : decode b_M_written 74 = .ok (.goto (-63), 3) := by decide +kernel
theorem d_M_written_77 : decode b_M_written 77 = .ok (.aload_n 0, 1) := by decide +kernel
theorem d_M_written_78 : decode b_M_written 78 = .ok (.aload_n 0, 1) := by decide +kernel
theorem d_M_written_79 : decode b_M_written 79 = .ok (.iload_n 1, 1) := by decide +kernel
theorem d_M_written_80 : decode b_M_written 80 = .ok (.invokevirtual 62, 3) := by decide +kernel
theorem d_M_written_83 : decode b_M_written 83 = .ok (.ifCond .eq 17, 3) := by decide +kernel
theorem d_M_written_86 : decode b_M_written 86 = .ok (.iload_n 2, 1) := by decide +kernel
theorem d_M_written_87 : decode b_M_written 87 = .ok (.iconst (-1), 1) := by decide +kernel
theorem d_M_written_88 : decode b_M_written 88 = .ok (.if_icmp .lt 12, 3) := by decide +kernel
theorem d_M_written_91 : decode b_M_written 91 = .ok (.iload_n 2, 1) := by decide +kernel
theorem d_M_written_92 : decode b_M_written 92 = .ok (.iload_n 3, 1) := by decide +kernel
theorem d_M_written_93 : decode b_M_written 93 = .ok (.if_icmp .ge 7, 3) := by decide +kernel
theorem d_M_written_96 : decode b_M_written 96 = .ok (.iconst 1, 1) := by decide +kernel
theorem d_M_written_97 : decode b_M_written 97 = .ok (.goto 4, 3) := by decide +kernel
theorem d_M_written_100 : decode b_M_written 100 = .ok (.iconst 0, 1) := by decide +kernel
theorem d_M_written_101 : decode b_M_written 101 = .ok (.iconst 1, 1) := by decide +kernel
theorem d_M_written_102 : decode b_M_written 102 = .ok (.iconst 1, 1) := by decide +kernel
theorem d_M_written_103 : decode b_M_written 103 = .ok (.invokevirtual 50, 3) := by decide +kernel
theorem d_M_written_106 : decode b_M_written 106 = .ok (.ifCond .ne 5, 3) := by decide +kernel
theorem d_M_written_109 : decode b_M_written 109 = .ok (.iconst 0, 1) := by decide +kernel
theorem d_M_written_110 : decode b_M_written 110 = .ok (.ireturn, 1) := by decide +kernel
theorem d_M_written_111 : decode b_M_written 111 = .ok (.iload_n 2, 1) := by decide +kernel
theorem d_M_written_112 : decode b_M_written 112 = .ok (.iconst (-1), 1) := by decide +kernel
theorem d_M_written_113 : decode b_M_written 113 = .ok (.if_icmp .ne 5, 3) := by decide +kernel
theorem d_M_written_116 : decode b_M_written 116 = .ok (.iload_n 3, 1) := by decide +kernel
theorem d_M_written_117 : decode b_M_written 117 = .ok (.ireturn, 1) := by decide +kernel
theorem d_M_written_118 : decode b_M_written 118 = .ok (.iload_n 2, 1) := by decide +kernel
theorem d_M_written_119 : decode b_M_written 119 = .ok (.iload 4, 2) := by decide +kernel
