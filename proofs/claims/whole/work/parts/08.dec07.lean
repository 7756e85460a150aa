theorem d_M_match_66 : decode b_M_match 66 = .ok (.getfield 13, 3) := by decide +kernel
theorem d_M_match_69 : decode b_M_match 69 = .ok (.iload_n 1, 1) := by decide +kernel
theorem d_M_match_70 : decode b_M_match 70 = .ok (.iaload, 1) := by decide +kernel
theorem d_M_match_71 : decode b_M_match 71 = .ok (.if_icmp .ge 160, 3) := by decide +kernel
theorem d_M_match_74 : decode b_M_match 74 = .ok (.aload_n 0, 1) := by decide +kernel
theorem d_M_match_75 : decode b_M_match 75 = .ok (.iload_n 1, 1) := by decide +kernel
theorem d_M_match_76 : decode b_M_match 76 = .ok (.iload_n 2, 1) := by decide +kernel
theorem d_M_match_77 : decode b_M_match 77 = .ok (.iload 4, 2) := by decide +kernel
theorem d_M_match_79 : decode b_M_match 79 = .ok (.invokevirtual 105, 3) := by decide +kernel
theorem d_M_match_82 : decode b_M_match 82 = .ok (.istore 5, 2) := by decide +kernel
theorem d_M_match_84 : decode b_M_match 84 = .ok (.aload_n 0, 1) := by decide +kernel
theorem d_M_match_85 : decode b_M_match 85 = .ok (.dup, 1) := by decide +kernel
theorem d_M_match_86 : decode b_M_match 86 = .ok (.getfield 109, 3) := by decide +kernel
theorem d_M_match_89 : decode b_M_match 89 = .ok (.iconst 1, 1) := by decide +kernel
theorem d_M_match_90 : decode b_M_match 90 = .ok (.iadd, 1) := by decide +kernel
theorem d_M_match_91 : decode b_M_match 91 = .ok (.putfield 109, 3) := by decide +kernel
theorem d_M_match_94 : decode b_M_match 94 = .ok (.aload_n 0, 1) := by decide +kernel
theorem d_M_match_95 : decode b_M_match 95 = .ok (.getfield 75, 3) := by decide +kernel
theorem d_M_match_98 : decode b_M_match 98 = .ok (.iload_n 3, 1) := by decide +kernel
theorem d_M_match_99 : decode b_M_match 99 = .ok (.if_icmp .lt 126, 3) := by decide +kernel
theorem d_M_match_102 : decode b_M_match 102 = .ok (.aload_n 0, 1) := by decide +kernel
theorem d_M_match_103 : decode b_M_match 103 = .ok (.getfield 102, 3) := by decide +kernel
theorem d_M_match_106 : decode b_M_match 106 = .ok (.istore 6, 2) := by decide +kernel
theorem d_M_match_108 : decode b_M_match 108 = .ok (.iload 6, 2) := by decide +kernel
theorem d_M_match_110 : decode b_M_match 110 = .ok (.ifCond .le 76, 3) := by decide +kernel
theorem d_M_match_113 : decode b_M_match 113 = .ok (.aload_n 0, 1) := by decide +kernel
theorem d_M_match_114 : decode b_M_match 114 = .ok (.iload 5, 2) := by decide +kernel
theorem d_M_match_116 : decode b_M_match 116 = .ok (.aload_n 0, 1) := by decide +kernel
theorem d_M_match_117 : decode b_M_match 117 = .ok (.getfield 75, 3) := by decide +kernel
theorem d_M_match_120 : decode b_M_match 120 = .ok (.iload 4, 2) := by decide +kernel
theorem d_M_match_122 : decode b_M_match 122 = .ok (.iload 6, 2) := by decide +kernel
theorem d_M_match_124 : decode b_M_match 124 = .ok (.iconst 1, 1) := by decide +kernel
theorem d_M_match_125 : decode b_M_match 125 = .ok (.isub, 1) := by decide +kernel
theorem d_M_match_126 : decode b_M_match 126 = .ok (.invokevirtual 112, 3) := by decide +kernel
theorem d_M_match_129 : decode b_M_match 129 = .ok (.ifCond .eq 57, 3) := by decide +kernel
theorem d_M_match_132 : decode b_M_match 132 = .ok (.aload_n 0, 1) := by decide +kernel
theorem d_M_match_133 : decode b_M_match 133 = .ok (.getfield 19, 3) := by decide +kernel
theorem d_M_match_136 : decode b_M_match 136 = .ok (.iload 6, 2) := by decide +kernel
theorem d_M_match_138 : decode b_M_match 138 = .ok (.aload_n 0, 1) := by decide +kernel
theorem d_M_match_139 : decode b_M_match 139 = .ok (.getfield 19, 3) := by decide +kernel
theorem d_M_match_142 : decode b_M_match 142 = .ok (.iload 6, 2) := by decide +kernel
theorem d_M_match_144 : decode b_M_match 144 = .ok (.iconst 1, 1) := by decide +kernel
theorem d_M_match_145 : decode b_M_match 145 = .ok (.isub, 1) := by decide +kernel
theorem d_M_match_146 : decode b_M_match 146 = .ok (.iaload, 1) := by decide +kernel
theorem d_M_match_147 : decode b_M_match 147 = .ok (.iastore, 1) := by decide +kernel
theorem d_M_match_148 : decode b_M_match 148 = .ok (.aload_n 0, 1) := by decide +kernel
theorem d_M_match_149 : decode b_M_match 149 = .ok (.getfield 22, 3) := by decide +kernel
theorem d_M_match_152 : decode b_M_match 152 = .ok (.iload 6, 2) := by decide +kernel
theorem d_M_match_154 : decode b_M_match 154 = .ok (.aload_n 0, 1) := by decide +kernel
theorem d_M_match_155 : decode b_M_match 155 = .ok (.getfield 22, 3) := by decide +kernel
theorem d_M_match_158 : decode b_M_match 158 = .ok (.iload 6, 2) := by decide +kernel
theorem d_M_match_160 : decode b_M_match 160 = .ok (.iconst 1, 1) := by decide +kernel
theorem d_M_match_161 : decode b_M_match 161 = .ok (.isub, 1) := by decide +kernel
theorem d_M_match_162 : decode b_M_match 162 = .ok (.iaload, 1) := by decide +kernel
theorem d_M_match_163 : decode b_M_match 163 = .ok (.iastore, 1) := by decide +kernel
theorem d_M_match_164 : decode b_M_match 164 = .ok (.aload_n 0, 1) := by decide +kernel
theorem d_M_match_165 : decode b_M_match 165 = .ok (.getfield 25, 3) := by decide +kernel
theorem d_M_match_168 : decode b_M_match 168 = .ok (.iload 6, 2) := by decide +kernel
theorem d_M_match_170 : decode b_M_match 170 = .ok (.aload_n 0, 1) := by decide +kernel
theorem d_M_match_171 : decode b_M_match 171 = .ok (.getfield 25, 3) := by decide +kernel
theorem d_M_match_174 : decode b_M_match 174 = .ok (.iload 6, 2) := by decide +kernel
theorem d_M_match_176 : decode b_M_match 176 = .ok (.iconst 1, 1) := by decide +kernel
theorem d_M_match_177 : decode b_M_match 177 = .ok (.isub, 1) := by decide +kernel
theorem d_M_match_178 : decode b_M_match 178 = .ok (.iaload, 1) := by decide +kernel
theorem d_M_match_179 : decode b_M_match 179 = .ok (.iastore, 1) := by decide +kernel
theorem d_M_match_180 : decode b_M_match 180 = .ok (.iinc 6 (-1), 3) := by decide +kernel
theorem d_M_match_183 : decode b_M_match 183 = .ok (.goto (-75), 3) := by decide +kernel
theorem d_M_match_186 : decode b_M_match 186 = .ok (.aload_n 0, 1) := by decide +kernel
theorem d_M_match_187 : decode b_M_match 187 = .ok (.getfield 19, 3) := by decide +kernel
theorem d_M_match_190 : decode b_M_match 190 = .ok (.iload 6, 2) := by decide +kernel
theorem d_M_match_192 : decode b_M_match 192 = .ok (.iload 4, 2) := by decide +kernel
theorem d_M_match_194 : decode b_M_match 194 = .ok (.iastore, 1) := by decide +kernel
theorem d_M_match_195 : decode b_M_match 195 = .ok (.aload_n 0, 1) := by decide +kernel
theorem d_M_match_196 : decode b_M_match 196 = .ok (.getfield 22, 3) := by decide +kernel
theorem d_M_match_199 : decode b_M_match 199 = .ok (.iload 6, 2) := by decide +kernel
theorem d_M_match_201 : decode b_M_match 201 = .ok (.aload_n 0, 1) := by decide +kernel
theorem d_M_match_202 : decode b_M_match 202 = .ok (.getfield 75, 3) := by decide +kernel
theorem d_M_match_205 : decode b_M_match 205 = .ok (.iastore, 1) := by decide +kernel
theorem d_M_match_206 : decode b_M_match 206 = .ok (.aload_n 0, 1) := by decide +kernel
theorem d_M_match_207 : decode b_M_match 207 = .ok (.getfield 25, 3) := by decide +kernel
theorem d_M_match_210 : decode b_M_match 210 = .ok (.iload 6, 2) := by decide +kernel
theorem d_M_match_212 : decode b_M_match 212 = .ok (.iload 5, 2) := by decide +kernel
theorem d_M_match_214 : decode b_M_match 214 = .ok (.iastore, 1) := by decide +kernel
theorem d_M_match_215 : decode b_M_match 215 = .ok (.aload_n 0, 1) := by decide +kernel
theorem d_M_match_216 : decode b_M_match 216 = .ok (.dup, 1) := by decide +kernel
theorem d_M_match_217 : decode b_M_match 217 = .ok (.getfield 102, 3) := by decide +kernel
theorem d_M_match_220 : decode b_M_match 220 = .ok (.iconst 1, 1) := by decide +kernel
theorem d_M_match_221 : decode b_M_match 221 = .ok (.iadd, 1) := by decide +kernel
theorem d_M_match_222 : decode b_M_match 222 = .ok (.putfield 102, 3) := by decide +kernel
theorem d_M_match_225 : decode b_M_match 225 = .ok (.iinc 4 1, 3) := by decide +kernel
theorem d_M_match_228 : decode b_M_match 228 = .ok (.goto (-165), 3) := by decide +kernel
theorem d_M_match_231 : decode b_M_match 231 = .ok (.aload_n 0, 1) := by decide +kernel
theorem d_M_match_232 : decode b_M_match 232 = .ok (.getfield 102, 3) := by decide +kernel
theorem d_M_match_235 : decode b_M_match 235 = .ok (.ireturn, 1) := by decide +kernel
theorem d_M_isListed_0 : decode b_M_isListed 0 = .ok (.iload_n 1, 1) := by decide +kernel
theorem d_M_isListed_1 : decode b_M_isListed 1 = .ok (.iconst 0, 1) := by decide +kernel
theorem d_M_isListed_2 : decode b_M_isListed 2 = .ok (.aload_n 0, 1) := by decide +kernel
theorem d_M_isListed_3 : decode b_M_isListed 3 = .ok (.getfield 102, 3) := by decide +kernel
theorem d_M_isListed_6 : decode b_M_isListed 6 = .ok (.iconst 1, 1) := by decide +kernel
theorem d_M_isListed_7 : decode b_M_isListed 7 = .ok (.isub, 1) := by decide +kernel
theorem d_M_isListed_8 : decode b_M_isListed 8 = .ok (.invokestatic 35, 3) := by decide +kernel
theorem d_M_isListed_11 : decode b_M_isListed 11 = .ok (.ifCond .eq 18, 3) := by decide +kernel
theorem d_M_isListed_14 : decode b_M_isListed 14 = .ok (.iload_n 2, 1) := by decide +kernel
theorem d_M_isListed_15 : decode b_M_isListed 15 = .ok (.iconst 0, 1) := by decide +kernel
theorem d_M_isListed_16 : decode b_M_isListed 16 = .ok (.iload_n 3, 1) := by decide +kernel
theorem d_M_isListed_17 : decode b_M_isListed 17 = .ok (.iconst 1, 1) := by decide +kernel
theorem d_M_isListed_18 : decode b_M_isListed 18 = .ok (.isub, 1) := by decide +kernel
theorem d_M_isListed_19 : decode b_M_isListed 19 = .ok (.invokestatic 35, 3) := by decide +kernel
theorem d_M_isListed_22 : decode b_M_isListed 22 = .ok (.ifCond .eq 7, 3) := by decide +kernel
theorem d_M_isListed_25 : decode b_M_isListed 25 = .ok (.iconst 1, 1) := by decide +kernel
theorem d_M_isListed_26 : decode b_M_isListed 26 = .ok (.goto 4, 3) := by decide +kernel
theorem d_M_isListed_29 : decode b_M_isListed 29 = .ok (.iconst 0, 1) := by decide +kernel
theorem d_M_isListed_30 : decode b_M_isListed 30 = .ok (.ireturn, 1) := by decide +kernel
theorem d_M_overlap_0 : decode b_M_overlap 0 = .ok (.aload_n 0, 1) := by decide +kernel
theorem d_M_overlap_1 : decode b_M_overlap 1 = .ok (.aload_n 0, 1) := by decide +kernel
theorem d_M_overlap_2 : decode b_M_overlap 2 = .ok (.iload_n 1, 1) := by decide +kernel
theorem d_M_overlap_3 : decode b_M_overlap 3 = .ok (.iload_n 2, 1) := by decide +kernel
theorem d_M_overlap_4 : decode b_M_overlap 4 = .ok (.iconst 3, 1) := by decide +kernel
theorem d_M_overlap_5 : decode b_M_overlap 5 = .ok (.invokevirtual 115, 3) := by decide +kernel
theorem d_M_overlap_8 : decode b_M_overlap 8 = .ok (.iconst 1, 1) := by decide +kernel
theorem d_M_overlap_9 : decode b_M_overlap 9 = .ok (.iconst 1, 1) := by decide +kernel
theorem d_M_overlap_10 : decode b_M_overlap 10 = .ok (.invokevirtual 50, 3) := by decide +kernel
theorem d_M_overlap_13 : decode b_M_overlap 13 = .ok (.ifCond .ne 5, 3) := by decide +kernel
theorem d_M_overlap_16 : decode b_M_overlap 16 = .ok (.iconst 0, 1) := by decide +kernel
theorem d_M_overlap_17 : decode b_M_overlap 17 = .ok (.ireturn, 1) := by decide +kernel
theorem d_M_overlap_18 : decode b_M_overlap 18 = .ok (.iload_n 2, 1) := by decide +kernel
theorem d_M_overlap_19 : decode b_M_overlap 19 = .ok (.ifCond .ne 12, 3) := by decide +kernel
theorem d_M_overlap_22 : decode b_M_overlap 22 = .ok (.aload_n 0, 1) := by decide +kernel
theorem d_M_overlap_23 : decode b_M_overlap 23 = .ok (.getfield 19, 3) := by decide +kernel
theorem d_M_overlap_26 : decode b_M_overlap 26 = .ok (.iload_n 1, 1) := by decide +kernel
theorem d_M_overlap_27 : decode b_M_overlap 27 = .ok (.iaload, 1) := by decide +kernel
theorem d_M_overlap_28 : decode b_M_overlap 28 = .ok (.goto 23, 3) := by decide +kernel
theorem d_M_overlap_31 : decode b_M_overlap 31 = .ok (.iload_n 2, 1) := by decide +kernel
theorem d_M_overlap_32 : decode b_M_overlap 32 = .ok (.iconst 1, 1) := by decide +kernel
theorem d_M_overlap_33 : decode b_M_overlap 33 = .ok (.if_icmp .ne 12, 3) := by decide +kernel
theorem d_M_overlap_36 : decode b_M_overlap 36 = .ok (.aload_n 0, 1) := by decide +kernel
theorem d_M_overlap_37 : decode b_M_overlap 37 = .ok (.getfield 22, 3) := by decide +kernel
theorem d_M_overlap_40 : decode b_M_overlap 40 = .ok (.iload_n 1, 1) := by decide +kernel
theorem d_M_overlap_41 : decode b_M_overlap 41 = .ok (.iaload, 1) := by decide +kernel
theorem d_M_overlap_42 : decode b_M_overlap 42 = .ok (.goto 9, 3) := by decide +kernel
theorem d_M_overlap_45 : decode b_M_overlap 45 = .ok (.aload_n 0, 1) := by decide +kernel
theorem d_M_overlap_46 : decode b_M_overlap 46 = .ok (.getfield 25, 3) := by decide +kernel
theorem d_M_overlap_49 : decode b_M_overlap 49 = .ok (.iload_n 1, 1) := by decide +kernel
theorem d_M_overlap_50 : decode b_M_overlap 50 = .ok (.iaload, 1) := by decide +kernel
theorem d_M_overlap_51 : decode b_M_overlap 51 = .ok (.ireturn, 1) := by decide +kernel
theorem d_M_fraction_0 : decode b_M_fraction 0 = .ok (.lload_n 1, 1) := by decide +kernel
theorem d_M_fraction_1 : decode b_M_fraction 1 = .ok (.lstore 5, 2) := by decide +kernel
theorem d_M_fraction_3 : decode b_M_fraction 3 = .ok (.lload_n 3, 1) := by decide +kernel
theorem d_M_fraction_4 : decode b_M_fraction 4 = .ok (.lstore 7, 2) := by decide +kernel
theorem d_M_fraction_6 : decode b_M_fraction 6 = .ok (.lload 7, 2) := by decide +kernel
theorem d_M_fraction_8 : decode b_M_fraction 8 = .ok (.lconst 0, 1) := by decide +kernel
theorem d_M_fraction_9 : decode b_M_fraction 9 = .ok (.lcmp, 1) := by decide +kernel
theorem d_M_fraction_10 : decode b_M_fraction 10 = .ok (.ifCond .eq 21, 3) := by decide +kernel
theorem d_M_fraction_13 : decode b_M_fraction 13 = .ok (.lload 5, 2) := by decide +kernel
theorem d_M_fraction_15 : decode b_M_fraction 15 = .ok (.lload 7, 2) := by decide +kernel
theorem d_M_fraction_17 : decode b_M_fraction 17 = .ok (.lrem, 1) := by decide +kernel
theorem d_M_fraction_18 : decode b_M_fraction 18 = .ok (.lstore 9, 2) := by decide +kernel
theorem d_M_fraction_20 : decode b_M_fraction 20 = .ok (.lload 7, 2) := by decide +kernel
theorem d_M_fraction_22 : decode b_M_fraction 22 = .ok (.lstore 5, 2) := by decide +kernel
theorem d_M_fraction_24 : decode b_M_fraction 24 = .ok (.lload 9, 2) := by decide +kernel
theorem d_M_fraction_26 : decode b_M_fraction 26 = .ok (.lstore 7, 2) := by decide +kernel
theorem d_M_fraction_28 : decode b_M_fraction 28 = .ok (.goto (-22), 3) := by decide +kernel
theorem d_M_fraction_31 : decode b_M_fraction 31 = .ok (.aload_n 0, 1) := by decide +kernel
theorem d_M_fraction_32 : decode b_M_fraction 32 = .ok (.lload_n 1, 1) := by decide +kernel
theorem d_M_fraction_33 : decode b_M_fraction 33 = .ok (.lload 5, 2) := by decide +kernel
theorem d_M_fraction_35 : decode b_M_fraction 35 = .ok (.ldiv, 1) := by decide +kernel
theorem d_M_fraction_36 : decode b_M_fraction 36 = .ok (.putfield 118, 3) := by decide +kernel
theorem d_M_fraction_39 : decode b_M_fraction 39 = .ok (.aload_n 0, 1) := by decide +kernel
theorem d_M_fraction_40 : decode b_M_fraction 40 = .ok (.lload_n 3, 1) := by decide +kernel
theorem d_M_fraction_41 : decode b_M_fraction 41 = .ok (.lload 5, 2) := by decide +kernel
theorem d_M_fraction_43 : decode b_M_fraction 43 = .ok (.ldiv, 1) := by decide +kernel
theorem d_M_fraction_44 : decode b_M_fraction 44 = .ok (.putfield 122, 3) := by decide +kernel
theorem d_M_fraction_47 : decode b_M_fraction 47 = .ok (.return_, 1) := by decide +kernel
theorem d_M_agree_0 : decode b_M_agree 0 = .ok (.aload_n 0, 1) := by decide +kernel
theorem d_M_agree_1 : decode b_M_agree 1 = .ok (.aload_n 0, 1) := by decide +kernel
theorem d_M_agree_2 : decode b_M_agree 2 = .ok (.iload_n 1, 1) := by decide +kernel
theorem d_M_agree_3 : decode b_M_agree 3 = .ok (.iload_n 2, 1) := by decide +kernel
theorem d_M_agree_4 : decode b_M_agree 4 = .ok (.iconst 2, 1) := by decide +kernel
theorem d_M_agree_5 : decode b_M_agree 5 = .ok (.invokevirtual 115, 3) := by decide +kernel
theorem d_M_agree_8 : decode b_M_agree 8 = .ok (.iconst 1, 1) := by decide +kernel
theorem d_M_agree_9 : decode b_M_agree 9 = .ok (.iconst 1, 1) := by decide +kernel
theorem d_M_agree_10 : decode b_M_agree 10 = .ok (.invokevirtual 50, 3) := by decide +kernel
theorem d_M_agree_13 : decode b_M_agree 13 = .ok (.ifCond .ne 5, 3) := by decide +kernel
theorem d_M_agree_16 : decode b_M_agree 16 = .ok (.iconst 0, 1) := by decide +kernel
theorem d_M_agree_17 : decode b_M_agree 17 = .ok (.ireturn, 1) := by decide +kernel
theorem d_M_agree_18 : decode b_M_agree 18 = .ok (.aload_n 0, 1) := by decide +kernel
theorem d_M_agree_19 : decode b_M_agree 19 = .ok (.aload_n 0, 1) := by decide +kernel
theorem d_M_agree_20 : decode b_M_agree 20 = .ok (.getfield 96, 3) := by decide +kernel
theorem d_M_agree_23 : decode b_M_agree 23 = .ok (.aload_n 0, 1) := by decide +kernel
theorem d_M_agree_24 : decode b_M_agree 24 = .ok (.getfield 99, 3) := by decide +kernel
theorem d_M_agree_27 : decode b_M_agree 27 = .ok (.aload_n 0, 1) := by decide +kernel
theorem d_M_agree_28 : decode b_M_agree 28 = .ok (.getfield 19, 3) := by decide +kernel
theorem d_M_agree_31 : decode b_M_agree 31 = .ok (.iload_n 1, 1) := by decide +kernel
theorem d_M_agree_32 : decode b_M_agree 32 = .ok (.iaload, 1) := by decide +kernel
theorem d_M_agree_33 : decode b_M_agree 33 = .ok (.invokevirtual 105, 3) := by decide +kernel
theorem d_M_agree_36 : decode b_M_agree 36 = .ok (.pop, 1) := by decide +kernel
theorem d_M_agree_37 : decode b_M_agree 37 = .ok (.aload_n 0, 1) := by decide +kernel
theorem d_M_agree_38 : decode b_M_agree 38 = .ok (.aload_n 0, 1) := by decide +kernel
theorem d_M_agree_39 : decode b_M_agree 39 = .ok (.getfield 81, 3) := by decide +kernel
theorem d_M_agree_42 : decode b_M_agree 42 = .ok (.i2l, 1) := by decide +kernel
theorem d_M_agree_43 : decode b_M_agree 43 = .ok (.aload_n 0, 1) := by decide +kernel
theorem d_M_agree_44 : decode b_M_agree 44 = .ok (.getfield 78, 3) := by decide +kernel
theorem d_M_agree_47 : decode b_M_agree 47 = .ok (.ifCond .ne 7, 3) := by decide +kernel
theorem d_M_agree_50 : decode b_M_agree 50 = .ok (.lconst 1, 1) := by decide +kernel
theorem d_M_agree_51 : decode b_M_agree 51 = .ok (.goto 12, 3) := by decide +kernel
theorem d_M_agree_54 : decode b_M_agree 54 = .ok (.ldc2_w 125, 3) := by decide +kernel
theorem d_M_agree_57 : decode b_M_agree 57 = .ok (.aload_n 0, 1) := by decide +kernel
theorem d_M_agree_58 : decode b_M_agree 58 = .ok (.getfield 78, 3) := by decide +kernel
theorem d_M_agree_61 : decode b_M_agree 61 = .ok (.i2l, 1) := by decide +kernel
theorem d_M_agree_62 : decode b_M_agree 62 = .ok (.lmul, 1) := by decide +kernel
theorem d_M_agree_63 : decode b_M_agree 63 = .ok (.invokevirtual 127, 3) := by decide +kernel
theorem d_M_agree_66 : decode b_M_agree 66 = .ok (.iload_n 2, 1) := by decide +kernel
theorem d_M_agree_67 : decode b_M_agree 67 = .ok (.ifCond .ne 10, 3) := by decide +kernel
theorem d_M_agree_70 : decode b_M_agree 70 = .ok (.aload_n 0, 1) := by decide +kernel
theorem d_M_agree_71 : decode b_M_agree 71 = .ok (.getfield 118, 3) := by decide +kernel
theorem d_M_agree_74 : decode b_M_agree 74 = .ok (.goto 7, 3) := by decide +kernel
theorem d_M_agree_77 : decode b_M_agree 77 = .ok (.aload_n 0, 1) := by decide +kernel
theorem d_M_agree_78 : decode b_M_agree 78 = .ok (.getfield 122, 3) := by decide +kernel
theorem d_M_agree_81 : decode b_M_agree 81 = .ok (.l2i, 1) := by decide +kernel
theorem d_M_agree_82 : decode b_M_agree 82 = .ok (.ireturn, 1) := by decide +kernel
theorem d_M_odds_0 : decode b_M_odds 0 = .ok (.aload_n 0, 1) := by decide +kernel
theorem d_M_odds_1 : decode b_M_odds 1 = .ok (.aload_n 0, 1) := by decide +kernel
theorem d_M_odds_2 : decode b_M_odds 2 = .ok (.iload_n 1, 1) := by decide +kernel
theorem d_M_odds_3 : decode b_M_odds 3 = .ok (.iload_n 2, 1) := by decide +kernel
theorem d_M_odds_4 : decode b_M_odds 4 = .ok (.iconst 2, 1) := by decide +kernel
theorem d_M_odds_5 : decode b_M_odds 5 = .ok (.invokevirtual 115, 3) := by decide +kernel
theorem d_M_odds_8 : decode b_M_odds 8 = .ok (.iconst 1, 1) := by decide +kernel
theorem d_M_odds_9 : decode b_M_odds 9 = .ok (.iconst 1, 1) := by decide +kernel
theorem d_M_odds_10 : decode b_M_odds 10 = .ok (.invokevirtual 50, 3) := by decide +kernel
theorem d_M_odds_13 : decode b_M_odds 13 = .ok (.ifCond .ne 5, 3) := by decide +kernel
theorem d_M_odds_16 : decode b_M_odds 16 = .ok (.lconst 0, 1) := by decide +kernel
theorem d_M_odds_17 : decode b_M_odds 17 = .ok (.lreturn, 1) := by decide +kernel
theorem d_M_odds_18 : decode b_M_odds 18 = .ok (.aload_n 0, 1) := by decide +kernel
theorem d_M_odds_19 : decode b_M_odds 19 = .ok (.aload_n 0, 1) := by decide +kernel
theorem d_M_odds_20 : decode b_M_odds 20 = .ok (.getfield 96, 3) := by decide +kernel
theorem d_M_odds_23 : decode b_M_odds 23 = .ok (.aload_n 0, 1) := by decide +kernel
theorem d_M_odds_24 : decode b_M_odds 24 = .ok (.getfield 99, 3) := by decide +kernel
theorem d_M_odds_27 : decode b_M_odds 27 = .ok (.aload_n 0, 1) := by decide +kernel
theorem d_M_odds_28 : decode b_M_odds 28 = .ok (.getfield 19, 3) := by decide +kernel
theorem d_M_odds_31 : decode b_M_odds 31 = .ok (.iload_n 1, 1) := by decide +kernel
theorem d_M_odds_32 : decode b_M_odds 32 = .ok (.iaload, 1) := by decide +kernel
theorem d_M_odds_33 : decode b_M_odds 33 = .ok (.invokevirtual 105, 3) := by decide +kernel
theorem d_M_odds_36 : decode b_M_odds 36 = .ok (.pop, 1) := by decide +kernel
theorem d_M_odds_37 : decode b_M_odds 37 = .ok (.lconst 0, 1) := by decide +kernel
theorem d_M_odds_38 : decode b_M_odds 38 = .ok (.lstore_n 3, 1) := by decide +kernel
theorem d_M_odds_39 : decode b_M_odds 39 = .ok (.lconst 1, 1) := by decide +kernel
theorem d_M_odds_40 : decode b_M_odds 40 = .ok (.lstore 5, 2) := by decide +kernel
theorem d_M_odds_42 : decode b_M_odds 42 = .ok (.iconst 0, 1) := by decide +kernel
theorem d_M_odds_43 : decode b_M_odds 43 = .ok (.istore 7, 2) := by decide +kernel
theorem d_M_odds_45 : decode b_M_odds 45 = .ok (.iload 7, 2) := by decide +kernel
theorem d_M_odds_47 : decode b_M_odds 47 = .ok (.aload_n 0, 1) := by decide +kernel
theorem d_M_odds_48 : decode b_M_odds 48 = .ok (.getfield 78, 3) := by decide +kernel
theorem d_M_odds_51 : decode b_M_odds 51 = .ok (.if_icmp .gt 48, 3) := by decide +kernel
theorem d_M_odds_54 : decode b_M_odds 54 = .ok (.iconst 2, 1) := by decide +kernel
theorem d_M_odds_55 : decode b_M_odds 55 = .ok (.iload 7, 2) := by decide +kernel
theorem d_M_odds_57 : decode b_M_odds 57 = .ok (.imul, 1) := by decide +kernel
theorem d_M_odds_58 : decode b_M_odds 58 = .ok (.aload_n 0, 1) := by decide +kernel
theorem d_M_odds_59 : decode b_M_odds 59 = .ok (.getfield 81, 3) := by decide +kernel
theorem d_M_odds_62 : decode b_M_odds 62 = .ok (.if_icmp .lt 10, 3) := by decide +kernel
theorem d_M_odds_65 : decode b_M_odds 65 = .ok (.lload_n 3, 1) := by decide +kernel
theorem d_M_odds_66 : decode b_M_odds 66 = .ok (.lload 5, 2) := by decide +kernel
theorem d_M_odds_68 : decode b_M_odds 68 = .ok (.ladd, 1) := by decide +kernel
theorem d_M_odds_69 : decode b_M_odds 69 = .ok (.goto 4, 3) := by decide +kernel
theorem d_M_odds_72 : decode b_M_odds 72 = .ok (.lload_n 3, 1) := by decide +kernel
theorem d_M_odds_73 : decode b_M_odds 73 = .ok (.lstore_n 3, 1) := by decide +kernel
theorem d_M_odds_74 : decode b_M_odds 74 = .ok (.lload 5, 2) := by decide +kernel
theorem d_M_odds_76 : decode b_M_odds 76 = .ok (.aload_n 0, 1) := by decide +kernel
theorem d_M_odds_77 : decode b_M_odds 77 = .ok (.getfield 78, 3) := by decide +kernel
theorem d_M_odds_80 : decode b_M_odds 80 = .ok (.iload 7, 2) := by decide +kernel
theorem d_M_odds_82 : decode b_M_odds 82 = .ok (.isub, 1) := by decide +kernel
theorem d_M_odds_83 : decode b_M_odds 83 = .ok (.i2l, 1) := by decide +kernel
theorem d_M_odds_84 : decode b_M_odds 84 = .ok (.lmul, 1) := by decide +kernel
theorem d_M_odds_85 : decode b_M_odds 85 = .ok (.iload 7, 2) := by decide +kernel
theorem d_M_odds_87 : decode b_M_odds 87 = .ok (.iconst 1, 1) := by decide +kernel
theorem d_M_odds_88 : decode b_M_odds 88 = .ok (.iadd, 1) := by decide +kernel
theorem d_M_odds_89 : decode b_M_odds 89 = .ok (.i2l, 1) := by decide +kernel
theorem d_M_odds_90 : decode b_M_odds 90 = .ok (.ldiv, 1) := by decide +kernel
theorem d_M_odds_91 : decode b_M_odds 91 = .ok (.lstore 5, 2) := by decide +kernel
theorem d_M_odds_93 : decode b_M_odds 93 = .ok (.iinc 7 1, 3) := by decide +kernel
theorem d_M_odds_96 : decode b_M_odds 96 = .ok (.goto (-51), 3) := by decide +kernel
theorem d_M_odds_99 : decode b_M_odds 99 = .ok (.lconst 1, 1) := by decide +kernel
theorem d_M_odds_100 : decode b_M_odds 100 = .ok (.aload_n 0, 1) := by decide +kernel
theorem d_M_odds_101 : decode b_M_odds 101 = .ok (.getfield 78, 3) := by decide +kernel
theorem d_M_odds_104 : decode b_M_odds 104 = .ok (.lshl, 1) := by decide +kernel
theorem d_M_odds_105 : decode b_M_odds 105 = .ok (.lstore 7, 2) := by decide +kernel
theorem d_M_odds_107 : decode b_M_odds 107 = .ok (.lload_n 3, 1) := by decide +kernel
theorem d_M_odds_108 : decode b_M_odds 108 = .ok (.aload_n 0, 1) := by decide +kernel
theorem d_M_odds_109 : decode b_M_odds 109 = .ok (.getfield 109, 3) := by decide +kernel
theorem d_M_odds_112 : decode b_M_odds 112 = .ok (.i2l, 1) := by decide +kernel
theorem d_M_odds_113 : decode b_M_odds 113 = .ok (.lmul, 1) := by decide +kernel
theorem d_M_odds_114 : decode b_M_odds 114 = .ok (.lstore 9, 2) := by decide +kernel
theorem d_M_odds_116 : decode b_M_odds 116 = .ok (.aload_n 0, 1) := by decide +kernel
theorem d_M_odds_117 : decode b_M_odds 117 = .ok (.lload 9, 2) := by decide +kernel
theorem d_M_odds_119 : decode b_M_odds 119 = .ok (.lload 7, 2) := by decide +kernel
theorem d_M_odds_121 : decode b_M_odds 121 = .ok (.lcmp, 1) := by decide +kernel
theorem d_M_odds_122 : decode b_M_odds 122 = .ok (.ifCond .ge 8, 3) := by decide +kernel
theorem d_M_odds_125 : decode b_M_odds 125 = .ok (.lload 9, 2) := by decide +kernel
theorem d_M_odds_127 : decode b_M_odds 127 = .ok (.goto 5, 3) := by decide +kernel
theorem d_M_odds_130 : decode b_M_odds 130 = .ok (.lload 7, 2) := by decide +kernel
theorem d_M_odds_132 : decode b_M_odds 132 = .ok (.lload 7, 2) := by decide +kernel
theorem d_M_odds_134 : decode b_M_odds 134 = .ok (.invokevirtual 127, 3) := by decide +kernel
theorem d_M_odds_137 : decode b_M_odds 137 = .ok (.iload_n 2, 1) := by decide +kernel
theorem d_M_odds_138 : decode b_M_odds 138 = .ok (.ifCond .ne 10, 3) := by decide +kernel
theorem d_M_odds_141 : decode b_M_odds 141 = .ok (.aload_n 0, 1) := by decide +kernel
theorem d_M_odds_142 : decode b_M_odds 142 = .ok (.getfield 118, 3) := by decide +kernel
theorem d_M_odds_145 : decode b_M_odds 145 = .ok (.goto 7, 3) := by decide +kernel
theorem d_M_odds_148 : decode b_M_odds 148 = .ok (.aload_n 0, 1) := by decide +kernel
theorem d_M_odds_149 : decode b_M_odds 149 = .ok (.getfield 122, 3) := by decide +kernel
theorem d_M_odds_152 : decode b_M_odds 152 = .ok (.lreturn, 1) := by decide +kernel
theorem d_M_absent_0 : decode b_M_absent 0 = .ok (.aload_n 0, 1) := by decide +kernel
theorem d_M_absent_1 : decode b_M_absent 1 = .ok (.aload_n 0, 1) := by decide +kernel
theorem d_M_absent_2 : decode b_M_absent 2 = .ok (.iload_n 1, 1) := by decide +kernel
theorem d_M_absent_3 : decode b_M_absent 3 = .ok (.invokevirtual 62, 3) := by decide +kernel
theorem d_M_absent_6 : decode b_M_absent 6 = .ok (.ifCond .eq 15, 3) := by decide +kernel
theorem d_M_absent_9 : decode b_M_absent 9 = .ok (.aload_n 0, 1) := by decide +kernel
theorem d_M_absent_10 : decode b_M_absent 10 = .ok (.iload_n 2, 1) := by decide +kernel
theorem d_M_absent_11 : decode b_M_absent 11 = .ok (.invokevirtual 62, 3) := by decide +kernel
theorem d_M_absent_14 : decode b_M_absent 14 = .ok (.ifCond .eq 7, 3) := by decide +kernel
theorem d_M_absent_17 : decode b_M_absent 17 = .ok (.iconst 1, 1) := by decide +kernel
theorem d_M_absent_18 : decode b_M_absent 18 = .ok (.goto 4, 3) := by decide +kernel
theorem d_M_absent_21 : decode b_M_absent 21 = .ok (.iconst 0, 1) := by decide +kernel
theorem d_M_absent_22 : decode b_M_absent 22 = .ok (.aload_n 0, 1) := by decide +kernel
theorem d_M_absent_23 : decode b_M_absent 23 = .ok (.getfield 13, 3) := by decide +kernel
theorem d_M_absent_26 : decode b_M_absent 26 = .ok (.aload_n 0, 1) := by decide +kernel
theorem d_M_absent_27 : decode b_M_absent 27 = .ok (.iload_n 2, 1) := by decide +kernel
theorem d_M_absent_28 : decode b_M_absent 28 = .ok (.invokevirtual 62, 3) := by decide +kernel
theorem d_M_absent_31 : decode b_M_absent 31 = .ok (.ifCond .eq 7, 3) := by decide +kernel
theorem d_M_absent_34 : decode b_M_absent 34 = .ok (.iload_n 2, 1) := by decide +kernel
theorem d_M_absent_35 : decode b_M_absent 35 = .ok (.goto 4, 3) := by decide +kernel
theorem d_M_absent_38 : decode b_M_absent 38 = .ok (.iconst 0, 1) := by decide +kernel
theorem d_M_absent_39 : decode b_M_absent 39 = .ok (.iaload, 1) := by decide +kernel
theorem d_M_absent_40 : decode b_M_absent 40 = .ok (.bipush 24, 2) := by decide +kernel
theorem d_M_absent_42 : decode b_M_absent 42 = .ok (.if_icmp .ge 18, 3) := by decide +kernel
theorem d_M_absent_45 : decode b_M_absent 45 = .ok (.iload_n 3, 1) := by decide +kernel
theorem d_M_absent_46 : decode b_M_absent 46 = .ok (.bipush (-24), 2) := by decide +kernel
theorem d_M_absent_48 : decode b_M_absent 48 = .ok (.bipush 24, 2) := by decide +kernel
theorem d_M_absent_50 : decode b_M_absent 50 = .ok (.invokestatic 35, 3) := by decide +kernel
theorem d_M_absent_53 : decode b_M_absent 53 = .ok (.ifCond .eq 7, 3) := by decide +kernel
theorem d_M_absent_56 : decode b_M_absent 56 = .ok (.iconst 1, 1) := by decide +kernel
theorem d_M_absent_57 : decode b_M_absent 57 = .ok (.goto 4, 3) := by decide +kernel
theorem d_M_absent_60 : decode b_M_absent 60 = .ok (.iconst 0, 1) := by decide +kernel
theorem d_M_absent_61 : decode b_M_absent 61 = .ok (.iconst 1, 1) := by decide +kernel
theorem d_M_absent_62 : decode b_M_absent 62 = .ok (.invokevirtual 50, 3) := by decide +kernel
theorem d_M_absent_65 : decode b_M_absent 65 = .ok (.ifCond .ne 5, 3) := by decide +kernel
theorem d_M_absent_68 : decode b_M_absent 68 = .ok (.iconst 0, 1) := by decide +kernel
theorem d_M_absent_69 : decode b_M_absent 69 = .ok (.ireturn, 1) := by decide +kernel
theorem d_M_absent_70 : decode b_M_absent 70 = .ok (.iconst (-1), 1) := by decide +kernel
theorem d_M_absent_71 : decode b_M_absent 71 = .ok (.istore 4, 2) := by decide +kernel
theorem d_M_absent_73 : decode b_M_absent 73 = .ok (.iconst 0, 1) := by decide +kernel
theorem d_M_absent_74 : decode b_M_absent 74 = .ok (.istore 5, 2) := by decide +kernel
theorem d_M_absent_76 : decode b_M_absent 76 = .ok (.aload_n 0, 1) := by decide +kernel
theorem d_M_absent_77 : decode b_M_absent 77 = .ok (.getfield 13, 3) := by decide +kernel
theorem d_M_absent_80 : decode b_M_absent 80 = .ok (.bipush 8, 2) := by decide +kernel
theorem d_M_absent_82 : decode b_M_absent 82 = .ok (.aload_n 0, 1) := by decide +kernel
theorem d_M_absent_83 : decode b_M_absent 83 = .ok (.getfield 13, 3) := by decide +kernel
theorem d_M_absent_86 : decode b_M_absent 86 = .ok (.iload_n 2, 1) := by decide +kernel
theorem d_M_absent_87 : decode b_M_absent 87 = .ok (.iaload, 1) := by decide +kernel
theorem d_M_absent_88 : decode b_M_absent 88 = .ok (.iconst 1, 1) := by decide +kernel
theorem d_M_absent_89 : decode b_M_absent 89 = .ok (.iadd, 1) := by decide +kernel
theorem d_M_absent_90 : decode b_M_absent 90 = .ok (.iastore, 1) := by decide +kernel
theorem d_M_absent_91 : decode b_M_absent 91 = .ok (.iconst 0, 1) := by decide +kernel
theorem d_M_absent_92 : decode b_M_absent 92 = .ok (.istore 6, 2) := by decide +kernel
theorem d_M_absent_94 : decode b_M_absent 94 = .ok (.iload 6, 2) := by decide +kernel
theorem d_M_absent_96 : decode b_M_absent 96 = .ok (.aload_n 0, 1) := by decide +kernel
theorem d_M_absent_97 : decode b_M_absent 97 = .ok (.getfield 13, 3) := by decide +kernel
theorem d_M_absent_100 : decode b_M_absent 100 = .ok (.iload_n 2, 1) := by decide +kernel
theorem d_M_absent_101 : decode b_M_absent 101 = .ok (.iaload, 1) := by decide +kernel
theorem d_M_absent_102 : decode b_M_absent 102 = .ok (.if_icmp .gt 143, 3) := by decide +kernel
theorem d_M_absent_105 : decode b_M_absent 105 = .ok (.iconst 0, 1) := by decide +kernel
theorem d_M_absent_106 : decode b_M_absent 106 = .ok (.istore 7, 2) := by decide +kernel
theorem d_M_absent_108 : decode b_M_absent 108 = .ok (.iload 7, 2) := by decide +kernel
theorem d_M_absent_110 : decode b_M_absent 110 = .ok (.aload_n 0, 1) := by decide +kernel
theorem d_M_absent_111 : decode b_M_absent 111 = .ok (.getfield 13, 3) := by decide +kernel
theorem d_M_absent_114 : decode b_M_absent 114 = .ok (.iload_n 2, 1) := by decide +kernel
theorem d_M_absent_115 : decode b_M_absent 115 = .ok (.iaload, 1) := by decide +kernel
theorem d_M_absent_116 : decode b_M_absent 116 = .ok (.if_icmp .gt 57, 3) := by decide +kernel
theorem d_M_absent_119 : decode b_M_absent 119 = .ok (.aload_n 0, 1) := by decide +kernel
theorem d_M_absent_120 : decode b_M_absent 120 = .ok (.getfield 16, 3) := by decide +kernel
theorem d_M_absent_123 : decode b_M_absent 123 = .ok (.sipush 192, 3) := by decide +kernel
theorem d_M_absent_126 : decode b_M_absent 126 = .ok (.iload 7, 2) := by decide +kernel
theorem d_M_absent_128 : decode b_M_absent 128 = .ok (.iadd, 1) := by decide +kernel
theorem d_M_absent_129 : decode b_M_absent 129 = .ok (.iload 7, 2) := by decide +kernel
theorem d_M_absent_131 : decode b_M_absent 131 = .ok (.iload 6, 2) := by decide +kernel
theorem d_M_absent_133 : decode b_M_absent 133 = .ok (.if_icmp .ge 13, 3) := by decide +kernel
theorem d_M_absent_136 : decode b_M_absent 136 = .ok (.aload_n 0, 1) := by decide +kernel
theorem d_M_absent_137 : decode b_M_absent 137 = .ok (.iload_n 2, 1) := by decide +kernel
theorem d_M_absent_138 : decode b_M_absent 138 = .ok (.iload 7, 2) := by decide +kernel
theorem d_M_absent_140 : decode b_M_absent 140 = .ok (.invokevirtual 65, 3) := by decide +kernel
theorem d_M_absent_143 : decode b_M_absent 143 = .ok (.goto 23, 3) := by decide +kernel
theorem d_M_absent_146 : decode b_M_absent 146 = .ok (.iload 7, 2) := by decide +kernel
theorem d_M_absent_148 : decode b_M_absent 148 = .ok (.iload 6, 2) := by decide +kernel
theorem d_M_absent_150 : decode b_M_absent 150 = .ok (.if_icmp .ne 7, 3) := by decide +kernel
theorem d_M_absent_153 : decode b_M_absent 153 = .ok (.iconst 0, 1) := by decide +kernel
theorem d_M_absent_154 : decode b_M_absent 154 = .ok (.goto 12, 3) := by decide +kernel
theorem d_M_absent_157 : decode b_M_absent 157 = .ok (.aload_n 0, 1) := by decide +kernel
theorem d_M_absent_158 : decode b_M_absent 158 = .ok (.iload_n 2, 1) := by decide +kernel
theorem d_M_absent_159 : decode b_M_absent 159 = .ok (.iload 7, 2) := by decide +kernel
theorem d_M_absent_161 : decode b_M_absent 161 = .ok (.iconst 1, 1) := by decide +kernel
theorem d_M_absent_162 : decode b_M_absent 162 = .ok (.isub, 1) := by decide +kernel
theorem d_M_absent_163 : decode b_M_absent 163 = .ok (.invokevirtual 65, 3) := by decide +kernel
theorem d_M_absent_166 : decode b_M_absent 166 = .ok (.iastore, 1) := by decide +kernel
theorem d_M_absent_167 : decode b_M_absent 167 = .ok (.iinc 7 1, 3) := by decide +kernel
theorem d_M_absent_170 : decode b_M_absent 170 = .ok (.goto (-62), 3) := by decide +kernel
theorem d_M_absent_173 : decode b_M_absent 173 = .ok (.aload_n 0, 1) := by decide +kernel
theorem d_M_absent_174 : decode b_M_absent 174 = .ok (.iload_n 1, 1) := by decide +kernel
theorem d_M_absent_175 : decode b_M_absent 175 = .ok (.bipush 8, 2) := by decide +kernel
theorem d_M_absent_177 : decode b_M_absent 177 = .ok (.iload_n 3, 1) := by decide +kernel
theorem d_M_absent_178 : decode b_M_absent 178 = .ok (.invokevirtual 105, 3) := by decide +kernel
theorem d_M_absent_181 : decode b_M_absent 181 = .ok (.istore 7, 2) := by decide +kernel
theorem d_M_absent_183 : decode b_M_absent 183 = .ok (.aload_n 0, 1) := by decide +kernel
theorem d_M_absent_184 : decode b_M_absent 184 = .ok (.getfield 75, 3) := by decide +kernel
theorem d_M_absent_187 : decode b_M_absent 187 = .ok (.iconst 3, 1) := by decide +kernel
theorem d_M_absent_188 : decode b_M_absent 188 = .ok (.if_icmp .lt 20, 3) := by decide +kernel
theorem d_M_absent_191 : decode b_M_absent 191 = .ok (.iload 4, 2) := by decide +kernel
theorem d_M_absent_193 : decode b_M_absent 193 = .ok (.iconst (-1), 1) := by decide +kernel
theorem d_M_absent_194 : decode b_M_absent 194 = .ok (.if_icmp .eq 10, 3) := by decide +kernel
theorem d_M_absent_197 : decode b_M_absent 197 = .ok (.iload 7, 2) := by decide +kernel
theorem d_M_absent_199 : decode b_M_absent 199 = .ok (.iload 5, 2) := by decide +kernel
theorem d_M_absent_201 : decode b_M_absent 201 = .ok (.if_icmp .le 7, 3) := by decide +kernel
theorem d_M_absent_204 : decode b_M_absent 204 = .ok (.iconst 1, 1) := by decide +kernel
theorem d_M_absent_205 : decode b_M_absent 205 = .ok (.goto 4, 3) := by decide +kernel
theorem d_M_absent_208 : decode b_M_absent 208 = .ok (.iconst 0, 1) := by decide +kernel
theorem d_M_absent_209 : decode b_M_absent 209 = .ok (.istore 8, 2) := by decide +kernel
theorem d_M_absent_211 : decode b_M_absent 211 = .ok (.iload 8, 2) := by decide +kernel
theorem d_M_absent_213 : decode b_M_absent 213 = .ok (.ifCond .eq 8, 3) := by decide +kernel
theorem d_M_absent_216 : decode b_M_absent 216 = .ok (.iload 6, 2) := by decide +kernel
theorem d_M_absent_218 : decode b_M_absent 218 = .ok (.goto 5, 3) := by decide +kernel
theorem d_M_absent_221 : decode b_M_absent 221 = .ok (.iload 4, 2) := by decide +kernel
theorem d_M_absent_223 : decode b_M_absent 223 = .ok (.istore 4, 2) := by decide +kernel
theorem d_M_absent_225 : decode b_M_absent 225 = .ok (.iload 8, 2) := by decide +kernel
theorem d_M_absent_227 : decode b_M_absent 227 = .ok (.ifCond .eq 8, 3) := by decide +kernel
theorem d_M_absent_230 : decode b_M_absent 230 = .ok (.iload 7, 2) := by decide +kernel
theorem d_M_absent_232 : decode b_M_absent 232 = .ok (.goto 5, 3) := by decide +kernel
theorem d_M_absent_235 : decode b_M_absent 235 = .ok (.iload 5, 2) := by decide +kernel
theorem d_M_absent_237 : decode b_M_absent 237 = .ok (.istore 5, 2) := by decide +kernel
theorem d_M_absent_239 : decode b_M_absent 239 = .ok (.iinc 6 1, 3) := by decide +kernel
theorem d_M_absent_242 : decode b_M_absent 242 = .ok (.goto (-148), 3) := by decide +kernel
theorem d_M_absent_245 : decode b_M_absent 245 = .ok (.iload 4, 2) := by decide +kernel
theorem d_M_absent_247 : decode b_M_absent 247 = .ok (.ireturn, 1) := by decide +kernel
theorem d_M_at_0 : decode b_M_at 0 = .ok (.iload_n 2, 1) := by decide +kernel
theorem d_M_at_1 : decode b_M_at 1 = .ok (.ifCond .lt 22, 3) := by decide +kernel
theorem d_M_at_4 : decode b_M_at 4 = .ok (.iload_n 2, 1) := by decide +kernel
theorem d_M_at_5 : decode b_M_at 5 = .ok (.aload_n 0, 1) := by decide +kernel
theorem d_M_at_6 : decode b_M_at 6 = .ok (.getfield 13, 3) := by decide +kernel
theorem d_M_at_9 : decode b_M_at 9 = .ok (.iload_n 1, 1) := by decide +kernel
theorem d_M_at_10 : decode b_M_at 10 = .ok (.iaload, 1) := by decide +kernel
theorem d_M_at_11 : decode b_M_at 11 = .ok (.if_icmp .ge 12, 3) := by decide +kernel
theorem d_M_at_14 : decode b_M_at 14 = .ok (.aload_n 0, 1) := by decide +kernel
theorem d_M_at_15 : decode b_M_at 15 = .ok (.iload_n 1, 1) := by decide +kernel
theorem d_M_at_16 : decode b_M_at 16 = .ok (.iload_n 2, 1) := by decide +kernel
theorem d_M_at_17 : decode b_M_at 17 = .ok (.invokevirtual 65, 3) := by decide +kernel
theorem d_M_at_20 : decode b_M_at 20 = .ok (.goto 4, 3) := by decide +kernel
theorem d_M_at_23 : decode b_M_at 23 = .ok (.iconst 0, 1) := by decide +kernel
theorem d_M_at_24 : decode b_M_at 24 = .ok (.ireturn, 1) := by decide +kernel
theorem d_M_core_0 : decode b_M_core 0 = .ok (.aload_n 0, 1) := by decide +kernel
theorem d_M_core_1 : decode b_M_core 1 = .ok (.aload_n 0, 1) := by decide +kernel
theorem d_M_core_2 : decode b_M_core 2 = .ok (.iload_n 1, 1) := by decide +kernel
theorem d_M_core_3 : decode b_M_core 3 = .ok (.invokevirtual 62, 3) := by decide +kernel
theorem d_M_core_6 : decode b_M_core 6 = .ok (.ifCond .eq 15, 3) := by decide +kernel
theorem d_M_core_9 : decode b_M_core 9 = .ok (.aload_n 0, 1) := by decide +kernel
theorem d_M_core_10 : decode b_M_core 10 = .ok (.iload_n 2, 1) := by decide +kernel
theorem d_M_core_11 : decode b_M_core 11 = .ok (.invokevirtual 62, 3) := by decide +kernel
theorem d_M_core_14 : decode b_M_core 14 = .ok (.ifCond .eq 7, 3) := by decide +kernel
theorem d_M_core_17 : decode b_M_core 17 = .ok (.iconst 1, 1) := by decide +kernel
theorem d_M_core_18 : decode b_M_core 18 = .ok (.goto 4, 3) := by decide +kernel
theorem d_M_core_21 : decode b_M_core 21 = .ok (.iconst 0, 1) := by decide +kernel
theorem d_M_core_22 : decode b_M_core 22 = .ok (.aload_n 0, 1) := by decide +kernel
theorem d_M_core_23 : decode b_M_core 23 = .ok (.getfield 32, 3) := by decide +kernel
theorem d_M_core_26 : decode b_M_core 26 = .ok (.bipush 8, 2) := by decide +kernel
theorem d_M_core_28 : decode b_M_core 28 = .ok (.if_icmp .ge 7, 3) := by decide +kernel
theorem d_M_core_31 : decode b_M_core 31 = .ok (.iconst 1, 1) := by decide +kernel
theorem d_M_core_32 : decode b_M_core 32 = .ok (.goto 4, 3) := by decide +kernel
theorem d_M_core_35 : decode b_M_core 35 = .ok (.iconst 0, 1) := by decide +kernel
theorem d_M_core_36 : decode b_M_core 36 = .ok (.iconst 1, 1) := by decide +kernel
theorem d_M_core_37 : decode b_M_core 37 = .ok (.invokevirtual 50, 3) := by decide +kernel
theorem d_M_core_40 : decode b_M_core 40 = .ok (.ifCond .ne 5, 3) := by decide +kernel
theorem d_M_core_43 : decode b_M_core 43 = .ok (.iconst 0, 1) := by decide +kernel
theorem d_M_core_44 : decode b_M_core 44 = .ok (.ireturn, 1) := by decide +kernel
theorem d_M_core_45 : decode b_M_core 45 = .ok (.iload_n 3, 1) := by decide +kernel
theorem d_M_core_46 : decode b_M_core 46 = .ok (.iconst 0, 1) := by decide +kernel
theorem d_M_core_47 : decode b_M_core 47 = .ok (.aload_n 0, 1) := by decide +kernel
theorem d_M_core_48 : decode b_M_core 48 = .ok (.getfield 13, 3) := by decide +kernel
theorem d_M_core_51 : decode b_M_core 51 = .ok (.iload_n 2, 1) := by decide +kernel
theorem d_M_core_52 : decode b_M_core 52 = .ok (.iaload, 1) := by decide +kernel
theorem d_M_core_53 : decode b_M_core 53 = .ok (.isub, 1) := by decide +kernel
theorem d_M_core_54 : decode b_M_core 54 = .ok (.if_icmp .le 13, 3) := by decide +kernel
theorem d_M_core_57 : decode b_M_core 57 = .ok (.iload_n 3, 1) := by decide +kernel
theorem d_M_core_58 : decode b_M_core 58 = .ok (.aload_n 0, 1) := by decide +kernel
theorem d_M_core_59 : decode b_M_core 59 = .ok (.getfield 13, 3) := by decide +kernel
theorem d_M_core_62 : decode b_M_core 62 = .ok (.iload_n 1, 1) := by decide +kernel
theorem d_M_core_63 : decode b_M_core 63 = .ok (.iaload, 1) := by decide +kernel
theorem d_M_core_64 : decode b_M_core 64 = .ok (.if_icmp .lt 5, 3) := by decide +kernel
theorem d_M_core_67 : decode b_M_core 67 = .ok (.iconst (-1), 1) := by decide +kernel
theorem d_M_core_68 : decode b_M_core 68 = .ok (.ireturn, 1) := by decide +kernel
theorem d_M_core_69 : decode b_M_core 69 = .ok (.iload_n 3, 1) := by decide +kernel
theorem d_M_core_70 : decode b_M_core 70 = .ok (.ifCond .ge 7, 3) := by decide +kernel
theorem d_M_core_73 : decode b_M_core 73 = .ok (.iload_n 3, 1) := by decide +kernel
theorem d_M_core_74 : decode b_M_core 74 = .ok (.goto 4, 3) := by decide +kernel
theorem d_M_core_77 : decode b_M_core 77 = .ok (.iconst 0, 1) := by decide +kernel
theorem d_M_core_78 : decode b_M_core 78 = .ok (.istore 4, 2) := by decide +kernel
