theorem d_M_written_121 : decode b_M_written 121 = .ok (.isub, 1) := by decide +kernel
theorem d_M_written_122 : decode b_M_written 122 = .ok (.istore 6, 2) := by decide +kernel
theorem d_M_written_124 : decode b_M_written 124 = .ok (.aload_n 0, 1) := by decide +kernel
theorem d_M_written_125 : decode b_M_written 125 = .ok (.iload_n 1, 1) := by decide +kernel
theorem d_M_written_126 : decode b_M_written 126 = .ok (.iload 5, 2) := by decide +kernel
theorem d_M_written_128 : decode b_M_written 128 = .ok (.invokevirtual 65, 3) := by decide +kernel
theorem d_M_written_131 : decode b_M_written 131 = .ok (.istore 7, 2) := by decide +kernel
theorem d_M_written_133 : decode b_M_written 133 = .ok (.aload_n 0, 1) := by decide +kernel
theorem d_M_written_134 : decode b_M_written 134 = .ok (.iload_n 1, 1) := by decide +kernel
theorem d_M_written_135 : decode b_M_written 135 = .ok (.iload 5, 2) := by decide +kernel
theorem d_M_written_137 : decode b_M_written 137 = .ok (.invokevirtual 69, 3) := by decide +kernel
theorem d_M_written_140 : decode b_M_written 140 = .ok (.iload 6, 2) := by decide +kernel
theorem d_M_written_142 : decode b_M_written 142 = .ok (.isub, 1) := by decide +kernel
theorem d_M_written_143 : decode b_M_written 143 = .ok (.iconst 3, 1) := by decide +kernel
theorem d_M_written_144 : decode b_M_written 144 = .ok (.if_icmp .ne 8, 3) := by decide +kernel
theorem d_M_written_147 : decode b_M_written 147 = .ok (.bipush 100, 2) := by decide +kernel
theorem d_M_written_149 : decode b_M_written 149 = .ok (.goto 23, 3) := by decide +kernel
theorem d_M_written_152 : decode b_M_written 152 = .ok (.aload_n 0, 1) := by decide +kernel
theorem d_M_written_153 : decode b_M_written 153 = .ok (.iload_n 1, 1) := by decide +kernel
theorem d_M_written_154 : decode b_M_written 154 = .ok (.iload 5, 2) := by decide +kernel
theorem d_M_written_156 : decode b_M_written 156 = .ok (.invokevirtual 69, 3) := by decide +kernel
theorem d_M_written_159 : decode b_M_written 159 = .ok (.iload 6, 2) := by decide +kernel
theorem d_M_written_161 : decode b_M_written 161 = .ok (.isub, 1) := by decide +kernel
theorem d_M_written_162 : decode b_M_written 162 = .ok (.iconst 2, 1) := by decide +kernel
theorem d_M_written_163 : decode b_M_written 163 = .ok (.if_icmp .ne 8, 3) := by decide +kernel
theorem d_M_written_166 : decode b_M_written 166 = .ok (.bipush 10, 2) := by decide +kernel
theorem d_M_written_168 : decode b_M_written 168 = .ok (.goto 4, 3) := by decide +kernel
theorem d_M_written_171 : decode b_M_written 171 = .ok (.iconst 1, 1) := by decide +kernel
theorem d_M_written_172 : decode b_M_written 172 = .ok (.istore 8, 2) := by decide +kernel
theorem d_M_written_174 : decode b_M_written 174 = .ok (.iload 6, 2) := by decide +kernel
theorem d_M_written_176 : decode b_M_written 176 = .ok (.aload_n 0, 1) := by decide +kernel
theorem d_M_written_177 : decode b_M_written 177 = .ok (.iload_n 1, 1) := by decide +kernel
theorem d_M_written_178 : decode b_M_written 178 = .ok (.iload 5, 2) := by decide +kernel
theorem d_M_written_180 : decode b_M_written 180 = .ok (.invokevirtual 69, 3) := by decide +kernel
theorem d_M_written_183 : decode b_M_written 183 = .ok (.if_icmp .ne 8, 3) := by decide +kernel
theorem d_M_written_186 : decode b_M_written 186 = .ok (.bipush 32, 2) := by decide +kernel
theorem d_M_written_188 : decode b_M_written 188 = .ok (.goto 24, 3) := by decide +kernel
theorem d_M_written_191 : decode b_M_written 191 = .ok (.iload 7, 2) := by decide +kernel
theorem d_M_written_193 : decode b_M_written 193 = .ok (.ifCond .ne 8, 3) := by decide +kernel
theorem d_M_written_196 : decode b_M_written 196 = .ok (.bipush 45, 2) := by decide +kernel
theorem d_M_written_198 : decode b_M_written 198 = .ok (.goto 14, 3) := by decide +kernel
theorem d_M_written_201 : decode b_M_written 201 = .ok (.bipush 48, 2) := by decide +kernel
theorem d_M_written_203 : decode b_M_written 203 = .ok (.iload 7, 2) := by decide +kernel
theorem d_M_written_205 : decode b_M_written 205 = .ok (.iload 8, 2) := by decide +kernel
theorem d_M_written_207 : decode b_M_written 207 = .ok (.idiv, 1) := by decide +kernel
theorem d_M_written_208 : decode b_M_written 208 = .ok (.bipush 10, 2) := by decide +kernel
theorem d_M_written_210 : decode b_M_written 210 = .ok (.irem, 1) := by decide +kernel
theorem d_M_written_211 : decode b_M_written 211 = .ok (.iadd, 1) := by decide +kernel
theorem d_M_written_212 : decode b_M_written 212 = .ok (.ireturn, 1) := by decide +kernel
theorem d_M_even_0 : decode b_M_even 0 = .ok (.iconst 0, 1) := by decide +kernel
theorem d_M_even_1 : decode b_M_even 1 = .ok (.istore_n 3, 1) := by decide +kernel
theorem d_M_even_2 : decode b_M_even 2 = .ok (.iconst 0, 1) := by decide +kernel
theorem d_M_even_3 : decode b_M_even 3 = .ok (.istore 4, 2) := by decide +kernel
theorem d_M_even_5 : decode b_M_even 5 = .ok (.iload_n 2, 1) := by decide +kernel
theorem d_M_even_6 : decode b_M_even 6 = .ok (.iconst 2, 1) := by decide +kernel
theorem d_M_even_7 : decode b_M_even 7 = .ok (.isub, 1) := by decide +kernel
theorem d_M_even_8 : decode b_M_even 8 = .ok (.istore 5, 2) := by decide +kernel
theorem d_M_even_10 : decode b_M_even 10 = .ok (.iload 5, 2) := by decide +kernel
theorem d_M_even_12 : decode b_M_even 12 = .ok (.iload_n 2, 1) := by decide +kernel
theorem d_M_even_13 : decode b_M_even 13 = .ok (.iconst 2, 1) := by decide +kernel
theorem d_M_even_14 : decode b_M_even 14 = .ok (.iadd, 1) := by decide +kernel
theorem d_M_even_15 : decode b_M_even 15 = .ok (.if_icmp .gt 77, 3) := by decide +kernel
theorem d_M_even_18 : decode b_M_even 18 = .ok (.iload 5, 2) := by decide +kernel
theorem d_M_even_20 : decode b_M_even 20 = .ok (.ifCond .lt 28, 3) := by decide +kernel
theorem d_M_even_23 : decode b_M_even 23 = .ok (.iload 5, 2) := by decide +kernel
theorem d_M_even_25 : decode b_M_even 25 = .ok (.aload_n 0, 1) := by decide +kernel
theorem d_M_even_26 : decode b_M_even 26 = .ok (.getfield 13, 3) := by decide +kernel
theorem d_M_even_29 : decode b_M_even 29 = .ok (.iload_n 1, 1) := by decide +kernel
theorem d_M_even_30 : decode b_M_even 30 = .ok (.iaload, 1) := by decide +kernel
theorem d_M_even_31 : decode b_M_even 31 = .ok (.if_icmp .ge 17, 3) := by decide +kernel
theorem d_M_even_34 : decode b_M_even 34 = .ok (.aload_n 0, 1) := by decide +kernel
theorem d_M_even_35 : decode b_M_even 35 = .ok (.iload_n 1, 1) := by decide +kernel
theorem d_M_even_36 : decode b_M_even 36 = .ok (.iload 5, 2) := by decide +kernel
theorem d_M_even_38 : decode b_M_even 38 = .ok (.invokevirtual 65, 3) := by decide +kernel
theorem d_M_even_41 : decode b_M_even 41 = .ok (.ifCond .le 7, 3) := by decide +kernel
theorem d_M_even_44 : decode b_M_even 44 = .ok (.iconst 1, 1) := by decide +kernel
theorem d_M_even_45 : decode b_M_even 45 = .ok (.goto 4, 3) := by decide +kernel
theorem d_M_even_48 : decode b_M_even 48 = .ok (.iconst 0, 1) := by decide +kernel
theorem d_M_even_49 : decode b_M_even 49 = .ok (.istore 6, 2) := by decide +kernel
theorem d_M_even_51 : decode b_M_even 51 = .ok (.iload 6, 2) := by decide +kernel
theorem d_M_even_53 : decode b_M_even 53 = .ok (.ifCond .eq 15, 3) := by decide +kernel
theorem d_M_even_56 : decode b_M_even 56 = .ok (.iload_n 3, 1) := by decide +kernel
theorem d_M_even_57 : decode b_M_even 57 = .ok (.aload_n 0, 1) := by decide +kernel
theorem d_M_even_58 : decode b_M_even 58 = .ok (.iload_n 1, 1) := by decide +kernel
theorem d_M_even_59 : decode b_M_even 59 = .ok (.iload 5, 2) := by decide +kernel
theorem d_M_even_61 : decode b_M_even 61 = .ok (.invokevirtual 65, 3) := by decide +kernel
theorem d_M_even_64 : decode b_M_even 64 = .ok (.iadd, 1) := by decide +kernel
theorem d_M_even_65 : decode b_M_even 65 = .ok (.goto 4, 3) := by decide +kernel
theorem d_M_even_68 : decode b_M_even 68 = .ok (.iload_n 3, 1) := by decide +kernel
theorem d_M_even_69 : decode b_M_even 69 = .ok (.istore_n 3, 1) := by decide +kernel
theorem d_M_even_70 : decode b_M_even 70 = .ok (.iload 6, 2) := by decide +kernel
theorem d_M_even_72 : decode b_M_even 72 = .ok (.ifCond .eq 10, 3) := by decide +kernel
theorem d_M_even_75 : decode b_M_even 75 = .ok (.iload 4, 2) := by decide +kernel
theorem d_M_even_77 : decode b_M_even 77 = .ok (.iconst 1, 1) := by decide +kernel
theorem d_M_even_78 : decode b_M_even 78 = .ok (.iadd, 1) := by decide +kernel
theorem d_M_even_79 : decode b_M_even 79 = .ok (.goto 5, 3) := by decide +kernel
theorem d_M_even_82 : decode b_M_even 82 = .ok (.iload 4, 2) := by decide +kernel
theorem d_M_even_84 : decode b_M_even 84 = .ok (.istore 4, 2) := by decide +kernel
theorem d_M_even_86 : decode b_M_even 86 = .ok (.iinc 5 1, 3) := by decide +kernel
theorem d_M_even_89 : decode b_M_even 89 = .ok (.goto (-79), 3) := by decide +kernel
theorem d_M_even_92 : decode b_M_even 92 = .ok (.aload_n 0, 1) := by decide +kernel
theorem d_M_even_93 : decode b_M_even 93 = .ok (.iload_n 1, 1) := by decide +kernel
theorem d_M_even_94 : decode b_M_even 94 = .ok (.iload_n 2, 1) := by decide +kernel
theorem d_M_even_95 : decode b_M_even 95 = .ok (.invokevirtual 65, 3) := by decide +kernel
theorem d_M_even_98 : decode b_M_even 98 = .ok (.ifCond .ne 5, 3) := by decide +kernel
theorem d_M_even_101 : decode b_M_even 101 = .ok (.iconst (-1), 1) := by decide +kernel
theorem d_M_even_102 : decode b_M_even 102 = .ok (.ireturn, 1) := by decide +kernel
theorem d_M_even_103 : decode b_M_even 103 = .ok (.bipush 100, 2) := by decide +kernel
theorem d_M_even_105 : decode b_M_even 105 = .ok (.aload_n 0, 1) := by decide +kernel
theorem d_M_even_106 : decode b_M_even 106 = .ok (.iload_n 1, 1) := by decide +kernel
theorem d_M_even_107 : decode b_M_even 107 = .ok (.iload_n 2, 1) := by decide +kernel
theorem d_M_even_108 : decode b_M_even 108 = .ok (.invokevirtual 65, 3) := by decide +kernel
theorem d_M_even_111 : decode b_M_even 111 = .ok (.imul, 1) := by decide +kernel
theorem d_M_even_112 : decode b_M_even 112 = .ok (.iload 4, 2) := by decide +kernel
theorem d_M_even_114 : decode b_M_even 114 = .ok (.imul, 1) := by decide +kernel
theorem d_M_even_115 : decode b_M_even 115 = .ok (.iload_n 3, 1) := by decide +kernel
theorem d_M_even_116 : decode b_M_even 116 = .ok (.idiv, 1) := by decide +kernel
theorem d_M_even_117 : decode b_M_even 117 = .ok (.istore 5, 2) := by decide +kernel
theorem d_M_even_119 : decode b_M_even 119 = .ok (.iload 5, 2) := by decide +kernel
theorem d_M_even_121 : decode b_M_even 121 = .ok (.sipush 200, 3) := by decide +kernel
theorem d_M_even_124 : decode b_M_even 124 = .ok (.if_icmp .le 9, 3) := by decide +kernel
theorem d_M_even_127 : decode b_M_even 127 = .ok (.sipush 200, 3) := by decide +kernel
theorem d_M_even_130 : decode b_M_even 130 = .ok (.goto 5, 3) := by decide +kernel
theorem d_M_even_133 : decode b_M_even 133 = .ok (.iload 5, 2) := by decide +kernel
theorem d_M_even_135 : decode b_M_even 135 = .ok (.ireturn, 1) := by decide +kernel
theorem d_M_evened_0 : decode b_M_evened 0 = .ok (.aload_n 0, 1) := by decide +kernel
theorem d_M_evened_1 : decode b_M_evened 1 = .ok (.aload_n 0, 1) := by decide +kernel
theorem d_M_evened_2 : decode b_M_evened 2 = .ok (.iload_n 1, 1) := by decide +kernel
theorem d_M_evened_3 : decode b_M_evened 3 = .ok (.invokevirtual 62, 3) := by decide +kernel
theorem d_M_evened_6 : decode b_M_evened 6 = .ok (.ifCond .eq 35, 3) := by decide +kernel
theorem d_M_evened_9 : decode b_M_evened 9 = .ok (.iload_n 2, 1) := by decide +kernel
theorem d_M_evened_10 : decode b_M_evened 10 = .ok (.iconst 0, 1) := by decide +kernel
theorem d_M_evened_11 : decode b_M_evened 11 = .ok (.aload_n 0, 1) := by decide +kernel
theorem d_M_evened_12 : decode b_M_evened 12 = .ok (.iload_n 1, 1) := by decide +kernel
theorem d_M_evened_13 : decode b_M_evened 13 = .ok (.invokevirtual 62, 3) := by decide +kernel
theorem d_M_evened_16 : decode b_M_evened 16 = .ok (.ifCond .eq 14, 3) := by decide +kernel
theorem d_M_evened_19 : decode b_M_evened 19 = .ok (.aload_n 0, 1) := by decide +kernel
theorem d_M_evened_20 : decode b_M_evened 20 = .ok (.getfield 13, 3) := by decide +kernel
theorem d_M_evened_23 : decode b_M_evened 23 = .ok (.iload_n 1, 1) := by decide +kernel
theorem d_M_evened_24 : decode b_M_evened 24 = .ok (.iaload, 1) := by decide +kernel
theorem d_M_evened_25 : decode b_M_evened 25 = .ok (.iconst 1, 1) := by decide +kernel
theorem d_M_evened_26 : decode b_M_evened 26 = .ok (.isub, 1) := by decide +kernel
theorem d_M_evened_27 : decode b_M_evened 27 = .ok (.goto 4, 3) := by decide +kernel
theorem d_M_evened_30 : decode b_M_evened 30 = .ok (.iconst (-1), 1) := by decide +kernel
theorem d_M_evened_31 : decode b_M_evened 31 = .ok (.invokestatic 35, 3) := by decide +kernel
theorem d_M_evened_34 : decode b_M_evened 34 = .ok (.ifCond .eq 7, 3) := by decide +kernel
theorem d_M_evened_37 : decode b_M_evened 37 = .ok (.iconst 1, 1) := by decide +kernel
theorem d_M_evened_38 : decode b_M_evened 38 = .ok (.goto 4, 3) := by decide +kernel
theorem d_M_evened_41 : decode b_M_evened 41 = .ok (.iconst 0, 1) := by decide +kernel
theorem d_M_evened_42 : decode b_M_evened 42 = .ok (.iconst 1, 1) := by decide +kernel
theorem d_M_evened_43 : decode b_M_evened 43 = .ok (.iconst 1, 1) := by decide +kernel
theorem d_M_evened_44 : decode b_M_evened 44 = .ok (.invokevirtual 50, 3) := by decide +kernel
theorem d_M_evened_47 : decode b_M_evened 47 = .ok (.ifCond .eq 12, 3) := by decide +kernel
theorem d_M_evened_50 : decode b_M_evened 50 = .ok (.aload_n 0, 1) := by decide +kernel
theorem d_M_evened_51 : decode b_M_evened 51 = .ok (.iload_n 1, 1) := by decide +kernel
theorem d_M_evened_52 : decode b_M_evened 52 = .ok (.iload_n 2, 1) := by decide +kernel
theorem d_M_evened_53 : decode b_M_evened 53 = .ok (.invokevirtual 72, 3) := by decide +kernel
theorem d_M_evened_56 : decode b_M_evened 56 = .ok (.goto 4, 3) := by decide +kernel
theorem d_M_evened_59 : decode b_M_evened 59 = .ok (.iconst 0, 1) := by decide +kernel
theorem d_M_evened_60 : decode b_M_evened 60 = .ok (.ireturn, 1) := by decide +kernel
theorem d_M_isPair_0 : decode b_M_isPair 0 = .ok (.iload 4, 2) := by decide +kernel
theorem d_M_isPair_2 : decode b_M_isPair 2 = .ok (.iload_n 3, 1) := by decide +kernel
theorem d_M_isPair_3 : decode b_M_isPair 3 = .ok (.iadd, 1) := by decide +kernel
theorem d_M_isPair_4 : decode b_M_isPair 4 = .ok (.istore 5, 2) := by decide +kernel
theorem d_M_isPair_6 : decode b_M_isPair 6 = .ok (.iload 4, 2) := by decide +kernel
theorem d_M_isPair_8 : decode b_M_isPair 8 = .ok (.ifCond .lt 54, 3) := by decide +kernel
theorem d_M_isPair_11 : decode b_M_isPair 11 = .ok (.iload 4, 2) := by decide +kernel
theorem d_M_isPair_13 : decode b_M_isPair 13 = .ok (.aload_n 0, 1) := by decide +kernel
theorem d_M_isPair_14 : decode b_M_isPair 14 = .ok (.getfield 13, 3) := by decide +kernel
theorem d_M_isPair_17 : decode b_M_isPair 17 = .ok (.iload_n 2, 1) := by decide +kernel
theorem d_M_isPair_18 : decode b_M_isPair 18 = .ok (.iaload, 1) := by decide +kernel
theorem d_M_isPair_19 : decode b_M_isPair 19 = .ok (.if_icmp .ge 43, 3) := by decide +kernel
theorem d_M_isPair_22 : decode b_M_isPair 22 = .ok (.iload 5, 2) := by decide +kernel
theorem d_M_isPair_24 : decode b_M_isPair 24 = .ok (.ifCond .lt 38, 3) := by decide +kernel
theorem d_M_isPair_27 : decode b_M_isPair 27 = .ok (.iload 5, 2) := by decide +kernel
theorem d_M_isPair_29 : decode b_M_isPair 29 = .ok (.aload_n 0, 1) := by decide +kernel
theorem d_M_isPair_30 : decode b_M_isPair 30 = .ok (.getfield 13, 3) := by decide +kernel
theorem d_M_isPair_33 : decode b_M_isPair 33 = .ok (.iload_n 1, 1) := by decide +kernel
theorem d_M_isPair_34 : decode b_M_isPair 34 = .ok (.iaload, 1) := by decide +kernel
theorem d_M_isPair_35 : decode b_M_isPair 35 = .ok (.if_icmp .ge 27, 3) := by decide +kernel
theorem d_M_isPair_38 : decode b_M_isPair 38 = .ok (.aload_n 0, 1) := by decide +kernel
theorem d_M_isPair_39 : decode b_M_isPair 39 = .ok (.iload_n 2, 1) := by decide +kernel
theorem d_M_isPair_40 : decode b_M_isPair 40 = .ok (.iload 4, 2) := by decide +kernel
theorem d_M_isPair_42 : decode b_M_isPair 42 = .ok (.invokevirtual 65, 3) := by decide +kernel
theorem d_M_isPair_45 : decode b_M_isPair 45 = .ok (.ifCond .le 17, 3) := by decide +kernel
theorem d_M_isPair_48 : decode b_M_isPair 48 = .ok (.aload_n 0, 1) := by decide +kernel
theorem d_M_isPair_49 : decode b_M_isPair 49 = .ok (.iload_n 1, 1) := by decide +kernel
theorem d_M_isPair_50 : decode b_M_isPair 50 = .ok (.iload 5, 2) := by decide +kernel
theorem d_M_isPair_52 : decode b_M_isPair 52 = .ok (.invokevirtual 65, 3) := by decide +kernel
theorem d_M_isPair_55 : decode b_M_isPair 55 = .ok (.ifCond .le 7, 3) := by decide +kernel
theorem d_M_isPair_58 : decode b_M_isPair 58 = .ok (.iconst 1, 1) := by decide +kernel
theorem d_M_isPair_59 : decode b_M_isPair 59 = .ok (.goto 4, 3) := by decide +kernel
theorem d_M_isPair_62 : decode b_M_isPair 62 = .ok (.iconst 0, 1) := by decide +kernel
theorem d_M_isPair_63 : decode b_M_isPair 63 = .ok (.ireturn, 1) := by decide +kernel
theorem d_M_correlate_0 : decode b_M_correlate 0 = .ok (.lconst 0, 1) := by decide +kernel
theorem d_M_correlate_1 : decode b_M_correlate 1 = .ok (.lstore 4, 2) := by decide +kernel
theorem d_M_correlate_3 : decode b_M_correlate 3 = .ok (.lconst 0, 1) := by decide +kernel
theorem d_M_correlate_4 : decode b_M_correlate 4 = .ok (.lstore 6, 2) := by decide +kernel
theorem d_M_correlate_6 : decode b_M_correlate 6 = .ok (.lconst 0, 1) := by decide +kernel
theorem d_M_correlate_7 : decode b_M_correlate 7 = .ok (.lstore 8, 2) := by decide +kernel
theorem d_M_correlate_9 : decode b_M_correlate 9 = .ok (.lconst 0, 1) := by decide +kernel
theorem d_M_correlate_10 : decode b_M_correlate 10 = .ok (.lstore 10, 2) := by decide +kernel
theorem d_M_correlate_12 : decode b_M_correlate 12 = .ok (.lconst 0, 1) := by decide +kernel
theorem d_M_correlate_13 : decode b_M_correlate 13 = .ok (.lstore 12, 2) := by decide +kernel
theorem d_M_correlate_15 : decode b_M_correlate 15 = .ok (.aload_n 0, 1) := by decide +kernel
theorem d_M_correlate_16 : decode b_M_correlate 16 = .ok (.iconst 0, 1) := by decide +kernel
theorem d_M_correlate_17 : decode b_M_correlate 17 = .ok (.putfield 75, 3) := by decide +kernel
theorem d_M_correlate_20 : decode b_M_correlate 20 = .ok (.aload_n 0, 1) := by decide +kernel
theorem d_M_correlate_21 : decode b_M_correlate 21 = .ok (.iconst 0, 1) := by decide +kernel
theorem d_M_correlate_22 : decode b_M_correlate 22 = .ok (.putfield 78, 3) := by decide +kernel
theorem d_M_correlate_25 : decode b_M_correlate 25 = .ok (.aload_n 0, 1) := by decide +kernel
theorem d_M_correlate_26 : decode b_M_correlate 26 = .ok (.iconst 0, 1) := by decide +kernel
theorem d_M_correlate_27 : decode b_M_correlate 27 = .ok (.putfield 81, 3) := by decide +kernel
theorem d_M_correlate_30 : decode b_M_correlate 30 = .ok (.iconst 0, 1) := by decide +kernel
theorem d_M_correlate_31 : decode b_M_correlate 31 = .ok (.istore 14, 2) := by decide +kernel
theorem d_M_correlate_33 : decode b_M_correlate 33 = .ok (.iload 14, 2) := by decide +kernel
theorem d_M_correlate_35 : decode b_M_correlate 35 = .ok (.aload_n 0, 1) := by decide +kernel
theorem d_M_correlate_36 : decode b_M_correlate 36 = .ok (.getfield 13, 3) := by decide +kernel
theorem d_M_correlate_39 : decode b_M_correlate 39 = .ok (.iload_n 2, 1) := by decide +kernel
theorem d_M_correlate_40 : decode b_M_correlate 40 = .ok (.iaload, 1) := by decide +kernel
theorem d_M_correlate_41 : decode b_M_correlate 41 = .ok (.if_icmp .ge 149, 3) := by decide +kernel
theorem d_M_correlate_44 : decode b_M_correlate 44 = .ok (.aload_n 0, 1) := by decide +kernel
theorem d_M_correlate_45 : decode b_M_correlate 45 = .ok (.iload_n 1, 1) := by decide +kernel
theorem d_M_correlate_46 : decode b_M_correlate 46 = .ok (.iload_n 2, 1) := by decide +kernel
theorem d_M_correlate_47 : decode b_M_correlate 47 = .ok (.iload_n 3, 1) := by decide +kernel
theorem d_M_correlate_48 : decode b_M_correlate 48 = .ok (.iload 14, 2) := by decide +kernel
theorem d_M_correlate_50 : decode b_M_correlate 50 = .ok (.invokevirtual 84, 3) := by decide +kernel
theorem d_M_correlate_53 : decode b_M_correlate 53 = .ok (.ifCond .eq 131, 3) := by decide +kernel
theorem d_M_correlate_56 : decode b_M_correlate 56 = .ok (.aload_n 0, 1) := by decide +kernel
theorem d_M_correlate_57 : decode b_M_correlate 57 = .ok (.iload_n 1, 1) := by decide +kernel
theorem d_M_correlate_58 : decode b_M_correlate 58 = .ok (.iload 14, 2) := by decide +kernel
theorem d_M_correlate_60 : decode b_M_correlate 60 = .ok (.iload_n 3, 1) := by decide +kernel
theorem d_M_correlate_61 : decode b_M_correlate 61 = .ok (.iadd, 1) := by decide +kernel
theorem d_M_correlate_62 : decode b_M_correlate 62 = .ok (.invokevirtual 72, 3) := by decide +kernel
theorem d_M_correlate_65 : decode b_M_correlate 65 = .ok (.i2l, 1) := by decide +kernel
theorem d_M_correlate_66 : decode b_M_correlate 66 = .ok (.lstore 15, 2) := by decide +kernel
theorem d_M_correlate_68 : decode b_M_correlate 68 = .ok (.aload_n 0, 1) := by decide +kernel
theorem d_M_correlate_69 : decode b_M_correlate 69 = .ok (.iload_n 2, 1) := by decide +kernel
theorem d_M_correlate_70 : decode b_M_correlate 70 = .ok (.iload 14, 2) := by decide +kernel
theorem d_M_correlate_72 : decode b_M_correlate 72 = .ok (.invokevirtual 72, 3) := by decide +kernel
theorem d_M_correlate_75 : decode b_M_correlate 75 = .ok (.i2l, 1) := by decide +kernel
theorem d_M_correlate_76 : decode b_M_correlate 76 = .ok (.lstore 17, 2) := by decide +kernel
theorem d_M_correlate_78 : decode b_M_correlate 78 = .ok (.lload 4, 2) := by decide +kernel
theorem d_M_correlate_80 : decode b_M_correlate 80 = .ok (.lload 15, 2) := by decide +kernel
theorem d_M_correlate_82 : decode b_M_correlate 82 = .ok (.ladd, 1) := by decide +kernel
theorem d_M_correlate_83 : decode b_M_correlate 83 = .ok (.lstore 4, 2) := by decide +kernel
theorem d_M_correlate_85 : decode b_M_correlate 85 = .ok (.lload 6, 2) := by decide +kernel
theorem d_M_correlate_87 : decode b_M_correlate 87 = .ok (.lload 17, 2) := by decide +kernel
theorem d_M_correlate_89 : decode b_M_correlate 89 = .ok (.ladd, 1) := by decide +kernel
theorem d_M_correlate_90 : decode b_M_correlate 90 = .ok (.lstore 6, 2) := by decide +kernel
theorem d_M_correlate_92 : decode b_M_correlate 92 = .ok (.lload 8, 2) := by decide +kernel
theorem d_M_correlate_94 : decode b_M_correlate 94 = .ok (.lload 15, 2) := by decide +kernel
theorem d_M_correlate_96 : decode b_M_correlate 96 = .ok (.lload 15, 2) := by decide +kernel
theorem d_M_correlate_98 : decode b_M_correlate 98 = .ok (.lmul, 1) := by decide +kernel
theorem d_M_correlate_99 : decode b_M_correlate 99 = .ok (.ladd, 1) := by decide +kernel
theorem d_M_correlate_100 : decode b_M_correlate 100 = .ok (.lstore 8, 2) := by decide +kernel
theorem d_M_correlate_102 : decode b_M_correlate 102 = .ok (.lload 10, 2) := by decide +kernel
theorem d_M_correlate_104 : decode b_M_correlate 104 = .ok (.lload 17, 2) := by decide +kernel
theorem d_M_correlate_106 : decode b_M_correlate 106 = .ok (.lload 17, 2) := by decide +kernel
theorem d_M_correlate_108 : decode b_M_correlate 108 = .ok (.lmul, 1) := by decide +kernel
theorem d_M_correlate_109 : decode b_M_correlate 109 = .ok (.ladd, 1) := by decide +kernel
theorem d_M_correlate_110 : decode b_M_correlate 110 = .ok (.lstore 10, 2) := by decide +kernel
theorem d_M_correlate_112 : decode b_M_correlate 112 = .ok (.lload 12, 2) := by decide +kernel
theorem d_M_correlate_114 : decode b_M_correlate 114 = .ok (.lload 15, 2) := by decide +kernel
theorem d_M_correlate_116 : decode b_M_correlate 116 = .ok (.lload 17, 2) := by decide +kernel
theorem d_M_correlate_118 : decode b_M_correlate 118 = .ok (.lmul, 1) := by decide +kernel
theorem d_M_correlate_119 : decode b_M_correlate 119 = .ok (.ladd, 1) := by decide +kernel
theorem d_M_correlate_120 : decode b_M_correlate 120 = .ok (.lstore 12, 2) := by decide +kernel
theorem d_M_correlate_122 : decode b_M_correlate 122 = .ok (.aload_n 0, 1) := by decide +kernel
theorem d_M_correlate_123 : decode b_M_correlate 123 = .ok (.dup, 1) := by decide +kernel
theorem d_M_correlate_124 : decode b_M_correlate 124 = .ok (.getfield 75, 3) := by decide +kernel
theorem d_M_correlate_127 : decode b_M_correlate 127 = .ok (.iconst 1, 1) := by decide +kernel
theorem d_M_correlate_128 : decode b_M_correlate 128 = .ok (.iadd, 1) := by decide +kernel
theorem d_M_correlate_129 : decode b_M_correlate 129 = .ok (.putfield 75, 3) := by decide +kernel
theorem d_M_correlate_132 : decode b_M_correlate 132 = .ok (.aload_n 0, 1) := by decide +kernel
theorem d_M_correlate_133 : decode b_M_correlate 133 = .ok (.iload_n 1, 1) := by decide +kernel
theorem d_M_correlate_134 : decode b_M_correlate 134 = .ok (.iload_n 2, 1) := by decide +kernel
theorem d_M_correlate_135 : decode b_M_correlate 135 = .ok (.iload_n 3, 1) := by decide +kernel
theorem d_M_correlate_136 : decode b_M_correlate 136 = .ok (.iload 14, 2) := by decide +kernel
theorem d_M_correlate_138 : decode b_M_correlate 138 = .ok (.iconst 1, 1) := by decide +kernel
theorem d_M_correlate_139 : decode b_M_correlate 139 = .ok (.iadd, 1) := by decide +kernel
theorem d_M_correlate_140 : decode b_M_correlate 140 = .ok (.invokevirtual 84, 3) := by decide +kernel
theorem d_M_correlate_143 : decode b_M_correlate 143 = .ok (.ifCond .eq 41, 3) := by decide +kernel
theorem d_M_correlate_146 : decode b_M_correlate 146 = .ok (.aload_n 0, 1) := by decide +kernel
theorem d_M_correlate_147 : decode b_M_correlate 147 = .ok (.dup, 1) := by decide +kernel
theorem d_M_correlate_148 : decode b_M_correlate 148 = .ok (.getfield 78, 3) := by decide +kernel
theorem d_M_correlate_151 : decode b_M_correlate 151 = .ok (.iconst 1, 1) := by decide +kernel
theorem d_M_correlate_152 : decode b_M_correlate 152 = .ok (.iadd, 1) := by decide +kernel
theorem d_M_correlate_153 : decode b_M_correlate 153 = .ok (.putfield 78, 3) := by decide +kernel
theorem d_M_correlate_156 : decode b_M_correlate 156 = .ok (.aload_n 0, 1) := by decide +kernel
theorem d_M_correlate_157 : decode b_M_correlate 157 = .ok (.aload_n 0, 1) := by decide +kernel
theorem d_M_correlate_158 : decode b_M_correlate 158 = .ok (.getfield 81, 3) := by decide +kernel
theorem d_M_correlate_161 : decode b_M_correlate 161 = .ok (.aload_n 0, 1) := by decide +kernel
theorem d_M_correlate_162 : decode b_M_correlate 162 = .ok (.iload_n 1, 1) := by decide +kernel
theorem d_M_correlate_163 : decode b_M_correlate 163 = .ok (.iload 14, 2) := by decide +kernel
theorem d_M_correlate_165 : decode b_M_correlate 165 = .ok (.iload_n 3, 1) := by decide +kernel
theorem d_M_correlate_166 : decode b_M_correlate 166 = .ok (.iadd, 1) := by decide +kernel
theorem d_M_correlate_167 : decode b_M_correlate 167 = .ok (.invokevirtual 88, 3) := by decide +kernel
theorem d_M_correlate_170 : decode b_M_correlate 170 = .ok (.aload_n 0, 1) := by decide +kernel
theorem d_M_correlate_171 : decode b_M_correlate 171 = .ok (.iload_n 2, 1) := by decide +kernel
theorem d_M_correlate_172 : decode b_M_correlate 172 = .ok (.iload 14, 2) := by decide +kernel
theorem d_M_correlate_174 : decode b_M_correlate 174 = .ok (.invokevirtual 88, 3) := by decide +kernel
theorem d_M_correlate_177 : decode b_M_correlate 177 = .ok (.invokestatic 91, 3) := by decide +kernel
theorem d_M_correlate_180 : decode b_M_correlate 180 = .ok (.iadd, 1) := by decide +kernel
theorem d_M_correlate_181 : decode b_M_correlate 181 = .ok (.putfield 81, 3) := by decide +kernel
theorem d_M_correlate_184 : decode b_M_correlate 184 = .ok (.iinc 14 1, 3) := by decide +kernel
theorem d_M_correlate_187 : decode b_M_correlate 187 = .ok (.goto (-154), 3) := by decide +kernel
theorem d_M_correlate_190 : decode b_M_correlate 190 = .ok (.aload_n 0, 1) := by decide +kernel
theorem d_M_correlate_191 : decode b_M_correlate 191 = .ok (.getfield 75, 3) := by decide +kernel
theorem d_M_correlate_194 : decode b_M_correlate 194 = .ok (.i2l, 1) := by decide +kernel
theorem d_M_correlate_195 : decode b_M_correlate 195 = .ok (.lload 12, 2) := by decide +kernel
theorem d_M_correlate_197 : decode b_M_correlate 197 = .ok (.lmul, 1) := by decide +kernel
theorem d_M_correlate_198 : decode b_M_correlate 198 = .ok (.lload 4, 2) := by decide +kernel
theorem d_M_correlate_200 : decode b_M_correlate 200 = .ok (.lload 6, 2) := by decide +kernel
theorem d_M_correlate_202 : decode b_M_correlate 202 = .ok (.lmul, 1) := by decide +kernel
theorem d_M_correlate_203 : decode b_M_correlate 203 = .ok (.lsub, 1) := by decide +kernel
theorem d_M_correlate_204 : decode b_M_correlate 204 = .ok (.lstore 14, 2) := by decide +kernel
theorem d_M_correlate_206 : decode b_M_correlate 206 = .ok (.aload_n 0, 1) := by decide +kernel
theorem d_M_correlate_207 : decode b_M_correlate 207 = .ok (.getfield 75, 3) := by decide +kernel
theorem d_M_correlate_210 : decode b_M_correlate 210 = .ok (.i2l, 1) := by decide +kernel
theorem d_M_correlate_211 : decode b_M_correlate 211 = .ok (.lload 8, 2) := by decide +kernel
theorem d_M_correlate_213 : decode b_M_correlate 213 = .ok (.lmul, 1) := by decide +kernel
theorem d_M_correlate_214 : decode b_M_correlate 214 = .ok (.lload 4, 2) := by decide +kernel
theorem d_M_correlate_216 : decode b_M_correlate 216 = .ok (.lload 4, 2) := by decide +kernel
theorem d_M_correlate_218 : decode b_M_correlate 218 = .ok (.lmul, 1) := by decide +kernel
theorem d_M_correlate_219 : decode b_M_correlate 219 = .ok (.lsub, 1) := by decide +kernel
theorem d_M_correlate_220 : decode b_M_correlate 220 = .ok (.lstore 16, 2) := by decide +kernel
theorem d_M_correlate_222 : decode b_M_correlate 222 = .ok (.aload_n 0, 1) := by decide +kernel
theorem d_M_correlate_223 : decode b_M_correlate 223 = .ok (.getfield 75, 3) := by decide +kernel
theorem d_M_correlate_226 : decode b_M_correlate 226 = .ok (.i2l, 1) := by decide +kernel
theorem d_M_correlate_227 : decode b_M_correlate 227 = .ok (.lload 10, 2) := by decide +kernel
theorem d_M_correlate_229 : decode b_M_correlate 229 = .ok (.lmul, 1) := by decide +kernel
theorem d_M_correlate_230 : decode b_M_correlate 230 = .ok (.lload 6, 2) := by decide +kernel
theorem d_M_correlate_232 : decode b_M_correlate 232 = .ok (.lload 6, 2) := by decide +kernel
theorem d_M_correlate_234 : decode b_M_correlate 234 = .ok (.lmul, 1) := by decide +kernel
theorem d_M_correlate_235 : decode b_M_correlate 235 = .ok (.lsub, 1) := by decide +kernel
theorem d_M_correlate_236 : decode b_M_correlate 236 = .ok (.lstore 18, 2) := by decide +kernel
theorem d_M_correlate_238 : decode b_M_correlate 238 = .ok (.lload 16, 2) := by decide +kernel
theorem d_M_correlate_240 : decode b_M_correlate 240 = .ok (.lconst 0, 1) := by decide +kernel
theorem d_M_correlate_241 : decode b_M_correlate 241 = .ok (.lcmp, 1) := by decide +kernel
theorem d_M_correlate_242 : decode b_M_correlate 242 = .ok (.ifCond .eq 10, 3) := by decide +kernel
theorem d_M_correlate_245 : decode b_M_correlate 245 = .ok (.lload 18, 2) := by decide +kernel
theorem d_M_correlate_247 : decode b_M_correlate 247 = .ok (.lconst 0, 1) := by decide +kernel
theorem d_M_correlate_248 : decode b_M_correlate 248 = .ok (.lcmp, 1) := by decide +kernel
theorem d_M_correlate_249 : decode b_M_correlate 249 = .ok (.ifCond .ne 5, 3) := by decide +kernel
theorem d_M_correlate_252 : decode b_M_correlate 252 = .ok (.iconst 0, 1) := by decide +kernel
theorem d_M_correlate_253 : decode b_M_correlate 253 = .ok (.ireturn, 1) := by decide +kernel
theorem d_M_correlate_254 : decode b_M_correlate 254 = .ok (.iconst 0, 1) := by decide +kernel
theorem d_M_correlate_255 : decode b_M_correlate 255 = .ok (.istore 20, 2) := by decide +kernel
theorem d_M_correlate_257 : decode b_M_correlate 257 = .ok (.iload 20, 2) := by decide +kernel
theorem d_M_correlate_259 : decode b_M_correlate 259 = .ok (.bipush 100, 2) := by decide +kernel
theorem d_M_correlate_261 : decode b_M_correlate 261 = .ok (.if_icmp .ge 39, 3) := by decide +kernel
theorem d_M_correlate_264 : decode b_M_correlate 264 = .ok (.iload 20, 2) := by decide +kernel
theorem d_M_correlate_266 : decode b_M_correlate 266 = .ok (.i2l, 1) := by decide +kernel
theorem d_M_correlate_267 : decode b_M_correlate 267 = .ok (.lconst 1, 1) := by decide +kernel
theorem d_M_correlate_268 : decode b_M_correlate 268 = .ok (.ladd, 1) := by decide +kernel
theorem d_M_correlate_269 : decode b_M_correlate 269 = .ok (.iload 20, 2) := by decide +kernel
theorem d_M_correlate_271 : decode b_M_correlate 271 = .ok (.i2l, 1) := by decide +kernel
theorem d_M_correlate_272 : decode b_M_correlate 272 = .ok (.lconst 1, 1) := by decide +kernel
theorem d_M_correlate_273 : decode b_M_correlate 273 = .ok (.ladd, 1) := by decide +kernel
theorem d_M_correlate_274 : decode b_M_correlate 274 = .ok (.lmul, 1) := by decide +kernel
theorem d_M_correlate_275 : decode b_M_correlate 275 = .ok (.lload 16, 2) := by decide +kernel
theorem d_M_correlate_277 : decode b_M_correlate 277 = .ok (.lmul, 1) := by decide +kernel
theorem d_M_correlate_278 : decode b_M_correlate 278 = .ok (.lload 18, 2) := by decide +kernel
theorem d_M_correlate_280 : decode b_M_correlate 280 = .ok (.lmul, 1) := by decide +kernel
theorem d_M_correlate_281 : decode b_M_correlate 281 = .ok (.ldc2_w 94, 3) := by decide +kernel
theorem d_M_correlate_284 : decode b_M_correlate 284 = .ok (.lload 14, 2) := by decide +kernel
theorem d_M_correlate_286 : decode b_M_correlate 286 = .ok (.lmul, 1) := by decide +kernel
theorem d_M_correlate_287 : decode b_M_correlate 287 = .ok (.lload 14, 2) := by decide +kernel
theorem d_M_correlate_289 : decode b_M_correlate 289 = .ok (.lmul, 1) := by decide +kernel
theorem d_M_correlate_290 : decode b_M_correlate 290 = .ok (.lcmp, 1) := by decide +kernel
theorem d_M_correlate_291 : decode b_M_correlate 291 = .ok (.ifCond .gt 9, 3) := by decide +kernel
theorem d_M_correlate_294 : decode b_M_correlate 294 = .ok (.iinc 20 1, 3) := by decide +kernel
theorem d_M_correlate_297 : decode b_M_correlate 297 = .ok (.goto (-40), 3) := by decide +kernel
theorem d_M_correlate_300 : decode b_M_correlate 300 = .ok (.lload 14, 2) := by decide +kernel
theorem d_M_correlate_302 : decode b_M_correlate 302 = .ok (.lconst 0, 1) := by decide +kernel
theorem d_M_correlate_303 : decode b_M_correlate 303 = .ok (.lcmp, 1) := by decide +kernel
theorem d_M_correlate_304 : decode b_M_correlate 304 = .ok (.ifCond .ge 10, 3) := by decide +kernel
theorem d_M_correlate_307 : decode b_M_correlate 307 = .ok (.iconst 0, 1) := by decide +kernel
theorem d_M_correlate_308 : decode b_M_correlate 308 = .ok (.iload 20, 2) := by decide +kernel
theorem d_M_correlate_310 : decode b_M_correlate 310 = .ok (.isub, 1) := by decide +kernel
theorem d_M_correlate_311 : decode b_M_correlate 311 = .ok (.goto 5, 3) := by decide +kernel
theorem d_M_correlate_314 : decode b_M_correlate 314 = .ok (.iload 20, 2) := by decide +kernel
theorem d_M_correlate_316 : decode b_M_correlate 316 = .ok (.ireturn, 1) := by decide +kernel
theorem d_M_rise_0 : decode b_M_rise 0 = .ok (.aload_n 0, 1) := by decide +kernel
theorem d_M_rise_1 : decode b_M_rise 1 = .ok (.iload_n 1, 1) := by decide +kernel
theorem d_M_rise_2 : decode b_M_rise 2 = .ok (.iload_n 2, 1) := by decide +kernel
theorem d_M_rise_3 : decode b_M_rise 3 = .ok (.iconst 1, 1) := by decide +kernel
theorem d_M_rise_4 : decode b_M_rise 4 = .ok (.iadd, 1) := by decide +kernel
theorem d_M_rise_5 : decode b_M_rise 5 = .ok (.invokevirtual 65, 3) := by decide +kernel
theorem d_M_rise_8 : decode b_M_rise 8 = .ok (.aload_n 0, 1) := by decide +kernel
theorem d_M_rise_9 : decode b_M_rise 9 = .ok (.iload_n 1, 1) := by decide +kernel
theorem d_M_rise_10 : decode b_M_rise 10 = .ok (.iload_n 2, 1) := by decide +kernel
theorem d_M_rise_11 : decode b_M_rise 11 = .ok (.invokevirtual 65, 3) := by decide +kernel
theorem d_M_rise_14 : decode b_M_rise 14 = .ok (.isub, 1) := by decide +kernel
theorem d_M_rise_15 : decode b_M_rise 15 = .ok (.istore_n 3, 1) := by decide +kernel
theorem d_M_rise_16 : decode b_M_rise 16 = .ok (.iload_n 3, 1) := by decide +kernel
theorem d_M_rise_17 : decode b_M_rise 17 = .ok (.ifCond .le 7, 3) := by decide +kernel
theorem d_M_rise_20 : decode b_M_rise 20 = .ok (.iconst 1, 1) := by decide +kernel
theorem d_M_rise_21 : decode b_M_rise 21 = .ok (.goto 12, 3) := by decide +kernel
theorem d_M_rise_24 : decode b_M_rise 24 = .ok (.iload_n 3, 1) := by decide +kernel
theorem d_M_rise_25 : decode b_M_rise 25 = .ok (.ifCond .ge 7, 3) := by decide +kernel
theorem d_M_rise_28 : decode b_M_rise 28 = .ok (.iconst (-1), 1) := by decide +kernel
theorem d_M_rise_29 : decode b_M_rise 29 = .ok (.goto 4, 3) := by decide +kernel
theorem d_M_rise_32 : decode b_M_rise 32 = .ok (.iconst 0, 1) := by decide +kernel
theorem d_M_rise_33 : decode b_M_rise 33 = .ok (.ireturn, 1) := by decide +kernel
theorem d_M_alike_0 : decode b_M_alike 0 = .ok (.iload_n 0, 1) := by decide +kernel
theorem d_M_alike_1 : decode b_M_alike 1 = .ok (.iload_n 1, 1) := by decide +kernel
theorem d_M_alike_2 : decode b_M_alike 2 = .ok (.if_icmp .ne 7, 3) := by decide +kernel
theorem d_M_alike_5 : decode b_M_alike 5 = .ok (.iconst 2, 1) := by decide +kernel
theorem d_M_alike_6 : decode b_M_alike 6 = .ok (.goto 16, 3) := by decide +kernel
theorem d_M_alike_9 : decode b_M_alike 9 = .ok (.iload_n 0, 1) := by decide +kernel
theorem d_M_alike_10 : decode b_M_alike 10 = .ok (.ifCond .eq 7, 3) := by decide +kernel
theorem d_M_alike_13 : decode b_M_alike 13 = .ok (.iload_n 1, 1) := by decide +kernel
theorem d_M_alike_14 : decode b_M_alike 14 = .ok (.ifCond .ne 7, 3) := by decide +kernel
theorem d_M_alike_17 : decode b_M_alike 17 = .ok (.iconst 1, 1) := by decide +kernel
theorem d_M_alike_18 : decode b_M_alike 18 = .ok (.goto 4, 3) := by decide +kernel
theorem d_M_alike_21 : decode b_M_alike 21 = .ok (.iconst 0, 1) := by decide +kernel
theorem d_M_alike_22 : decode b_M_alike 22 = .ok (.ireturn, 1) := by decide +kernel
theorem d_M_isAhead_0 : decode b_M_isAhead 0 = .ok (.iload_n 1, 1) := by decide +kernel
theorem d_M_isAhead_1 : decode b_M_isAhead 1 = .ok (.aload_n 0, 1) := by decide +kernel
theorem d_M_isAhead_2 : decode b_M_isAhead 2 = .ok (.getfield 25, 3) := by decide +kernel
theorem d_M_isAhead_5 : decode b_M_isAhead 5 = .ok (.iload 4, 2) := by decide +kernel
theorem d_M_isAhead_7 : decode b_M_isAhead 7 = .ok (.iaload, 1) := by decide +kernel
theorem d_M_isAhead_8 : decode b_M_isAhead 8 = .ok (.if_icmp .eq 22, 3) := by decide +kernel
theorem d_M_isAhead_11 : decode b_M_isAhead 11 = .ok (.iload_n 1, 1) := by decide +kernel
theorem d_M_isAhead_12 : decode b_M_isAhead 12 = .ok (.aload_n 0, 1) := by decide +kernel
theorem d_M_isAhead_13 : decode b_M_isAhead 13 = .ok (.getfield 25, 3) := by decide +kernel
theorem d_M_isAhead_16 : decode b_M_isAhead 16 = .ok (.iload 4, 2) := by decide +kernel
theorem d_M_isAhead_18 : decode b_M_isAhead 18 = .ok (.iaload, 1) := by decide +kernel
theorem d_M_isAhead_19 : decode b_M_isAhead 19 = .ok (.if_icmp .le 7, 3) := by decide +kernel
theorem d_M_isAhead_22 : decode b_M_isAhead 22 = .ok (.iconst 1, 1) := by decide +kernel
theorem d_M_isAhead_23 : decode b_M_isAhead 23 = .ok (.goto 53, 3) := by decide +kernel
theorem d_M_isAhead_26 : decode b_M_isAhead 26 = .ok (.iconst 0, 1) := by decide +kernel
theorem d_M_isAhead_27 : decode b_M_isAhead 27 = .ok (.goto 49, 3) := by decide +kernel
theorem d_M_isAhead_30 : decode b_M_isAhead 30 = .ok (.iload_n 2, 1) := by decide +kernel
theorem d_M_isAhead_31 : decode b_M_isAhead 31 = .ok (.aload_n 0, 1) := by decide +kernel
theorem d_M_isAhead_32 : decode b_M_isAhead 32 = .ok (.getfield 22, 3) := by decide +kernel
theorem d_M_isAhead_35 : decode b_M_isAhead 35 = .ok (.iload 4, 2) := by decide +kernel
theorem d_M_isAhead_37 : decode b_M_isAhead 37 = .ok (.iaload, 1) := by decide +kernel
theorem d_M_isAhead_38 : decode b_M_isAhead 38 = .ok (.if_icmp .eq 22, 3) := by decide +kernel
theorem d_M_isAhead_41 : decode b_M_isAhead 41 = .ok (.iload_n 2, 1) := by decide +kernel
theorem d_M_isAhead_42 : decode b_M_isAhead 42 = .ok (.aload_n 0, 1) := by decide +kernel
theorem d_M_isAhead_43 : decode b_M_isAhead 43 = .ok (.getfield 22, 3) := by decide +kernel
theorem d_M_isAhead_46 : decode b_M_isAhead 46 = .ok (.iload 4, 2) := by decide +kernel
theorem d_M_isAhead_48 : decode b_M_isAhead 48 = .ok (.iaload, 1) := by decide +kernel
theorem d_M_isAhead_49 : decode b_M_isAhead 49 = .ok (.if_icmp .le 7, 3) := by decide +kernel
theorem d_M_isAhead_52 : decode b_M_isAhead 52 = .ok (.iconst 1, 1) := by decide +kernel
theorem d_M_isAhead_53 : decode b_M_isAhead 53 = .ok (.goto 23, 3) := by decide +kernel
theorem d_M_isAhead_56 : decode b_M_isAhead 56 = .ok (.iconst 0, 1) := by decide +kernel
theorem d_M_isAhead_57 : decode b_M_isAhead 57 = .ok (.goto 19, 3) := by decide +kernel
theorem d_M_isAhead_60 : decode b_M_isAhead 60 = .ok (.iload_n 3, 1) := by decide +kernel
theorem d_M_isAhead_61 : decode b_M_isAhead 61 = .ok (.aload_n 0, 1) := by decide +kernel
theorem d_M_isAhead_62 : decode b_M_isAhead 62 = .ok (.getfield 19, 3) := by decide +kernel
theorem d_M_isAhead_65 : decode b_M_isAhead 65 = .ok (.iload 4, 2) := by decide +kernel
theorem d_M_isAhead_67 : decode b_M_isAhead 67 = .ok (.iaload, 1) := by decide +kernel
theorem d_M_isAhead_68 : decode b_M_isAhead 68 = .ok (.if_icmp .ge 7, 3) := by decide +kernel
theorem d_M_isAhead_71 : decode b_M_isAhead 71 = .ok (.iconst 1, 1) := by decide +kernel
theorem d_M_isAhead_72 : decode b_M_isAhead 72 = .ok (.goto 4, 3) := by decide +kernel
theorem d_M_isAhead_75 : decode b_M_isAhead 75 = .ok (.iconst 0, 1) := by decide +kernel
theorem d_M_isAhead_76 : decode b_M_isAhead 76 = .ok (.ireturn, 1) := by decide +kernel
theorem d_M_match_0 : decode b_M_match 0 = .ok (.aload_n 0, 1) := by decide +kernel
theorem d_M_match_1 : decode b_M_match 1 = .ok (.aload_n 0, 1) := by decide +kernel
theorem d_M_match_2 : decode b_M_match 2 = .ok (.iload_n 1, 1) := by decide +kernel
theorem d_M_match_3 : decode b_M_match 3 = .ok (.invokevirtual 62, 3) := by decide +kernel
theorem d_M_match_6 : decode b_M_match 6 = .ok (.ifCond .eq 15, 3) := by decide +kernel
theorem d_M_match_9 : decode b_M_match 9 = .ok (.aload_n 0, 1) := by decide +kernel
theorem d_M_match_10 : decode b_M_match 10 = .ok (.iload_n 2, 1) := by decide +kernel
theorem d_M_match_11 : decode b_M_match 11 = .ok (.invokevirtual 62, 3) := by decide +kernel
theorem d_M_match_14 : decode b_M_match 14 = .ok (.ifCond .eq 7, 3) := by decide +kernel
theorem d_M_match_17 : decode b_M_match 17 = .ok (.iconst 1, 1) := by decide +kernel
theorem d_M_match_18 : decode b_M_match 18 = .ok (.goto 4, 3) := by decide +kernel
theorem d_M_match_21 : decode b_M_match 21 = .ok (.iconst 0, 1) := by decide +kernel
theorem d_M_match_22 : decode b_M_match 22 = .ok (.iload_n 3, 1) := by decide +kernel
theorem d_M_match_23 : decode b_M_match 23 = .ok (.iconst 3, 1) := by decide +kernel
theorem d_M_match_24 : decode b_M_match 24 = .ok (.bipush 24, 2) := by decide +kernel
theorem d_M_match_26 : decode b_M_match 26 = .ok (.invokestatic 35, 3) := by decide +kernel
theorem d_M_match_29 : decode b_M_match 29 = .ok (.iconst 1, 1) := by decide +kernel
theorem d_M_match_30 : decode b_M_match 30 = .ok (.invokevirtual 50, 3) := by decide +kernel
theorem d_M_match_33 : decode b_M_match 33 = .ok (.ifCond .ne 5, 3) := by decide +kernel
theorem d_M_match_36 : decode b_M_match 36 = .ok (.iconst 0, 1) := by decide +kernel
theorem d_M_match_37 : decode b_M_match 37 = .ok (.ireturn, 1) := by decide +kernel
theorem d_M_match_38 : decode b_M_match 38 = .ok (.aload_n 0, 1) := by decide +kernel
theorem d_M_match_39 : decode b_M_match 39 = .ok (.iload_n 1, 1) := by decide +kernel
theorem d_M_match_40 : decode b_M_match 40 = .ok (.putfield 96, 3) := by decide +kernel
theorem d_M_match_43 : decode b_M_match 43 = .ok (.aload_n 0, 1) := by decide +kernel
theorem d_M_match_44 : decode b_M_match 44 = .ok (.iload_n 2, 1) := by decide +kernel
theorem d_M_match_45 : decode b_M_match 45 = .ok (.putfield 99, 3) := by decide +kernel
theorem d_M_match_48 : decode b_M_match 48 = .ok (.aload_n 0, 1) := by decide +kernel
theorem d_M_match_49 : decode b_M_match 49 = .ok (.iconst 0, 1) := by decide +kernel
theorem d_M_match_50 : decode b_M_match 50 = .ok (.putfield 102, 3) := by decide +kernel
theorem d_M_match_53 : decode b_M_match 53 = .ok (.iconst 1, 1) := by decide +kernel
theorem d_M_match_54 : decode b_M_match 54 = .ok (.aload_n 0, 1) := by decide +kernel
theorem d_M_match_55 : decode b_M_match 55 = .ok (.getfield 13, 3) := by decide +kernel
theorem d_M_match_58 : decode b_M_match 58 = .ok (.iload_n 2, 1) := by decide +kernel
theorem d_M_match_59 : decode b_M_match 59 = .ok (.iaload, 1) := by decide +kernel
theorem d_M_match_60 : decode b_M_match 60 = .ok (.isub, 1) := by decide +kernel
theorem d_M_match_61 : decode b_M_match 61 = .ok (.istore 4, 2) := by decide +kernel
theorem d_M_match_63 : decode b_M_match 63 = .ok (.iload 4, 2) := by decide +kernel
theorem d_M_match_65 : decode b_M_match 65 = .ok (.aload_n 0, 1) := by decide +kernel
